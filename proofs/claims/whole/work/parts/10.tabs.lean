/-! methods, classes, fields and calls, as the tables have them (written by program) -/
theorem tw_ {i : Nat} {w : Cond} (h : tables_1[i]? = some w) (g : goodWord w = true) : w ∈ gb_LW := List.mem_filter.mpr ⟨List.mem_append_right _ (List.mem_of_getElem? h), g⟩
theorem ts_ {i : Nat} {w : Cond} (h : (k2_sels lw_privs)[i]? = some w) (g : goodWord w = true) : w ∈ gb_LW := List.mem_filter.mpr ⟨List.mem_append_left _ (List.mem_of_getElem? h), g⟩
abbrev mX11_init : MT := (cX11_init, RX11, 2, none, yX11_init)
abbrev mX0_init : MT := (cX0_init, RX0, 1, none, yX0_init)
abbrev mX2_init : MT := (cX2_init, RX2, 1, none, yX2_init)
abbrev mX9_init : MT := (cX9_init, RX9, 2, none, yX9_init)
abbrev mX1_init : MT := (cX1_init, RX1, 1, none, yX1_init)
abbrev mX6_init : MT := (cX6_init, RX6, 1, none, yX6_init)
abbrev mX7_init : MT := (cX7_init, RX7, 1, none, yX7_init)
abbrev mX3_init : MT := (cX3_init, RX3, 1, none, yX3_init)
abbrev mX4_init : MT := (cX4_init, RX4, 1, none, yX4_init)
abbrev mX8_init : MT := (cX8_init, RX8, 1, none, yX8_init)
abbrev mX10_init : MT := (cX10_init, RX10, 1, none, yX10_init)
abbrev mX11_person : MT := (cX11_person, RX11, 5, some .int, yX11_person)
abbrev mX5_init : MT := (cX5_init, RX5, 5, none, yX5_init)
abbrev mX11_ring : MT := (cX11_ring, RX11, 2, some .int, yX11_ring)
abbrev mX2_lay : MT := (cX2_lay, RX2, 2, none, yX2_lay)
abbrev mJ7_fill_53178 : MT := (cJ7_fill_53178, RJ7, 4, none, yJ7_fill_53178)
abbrev mX2_restart : MT := (cX2_restart, RX2, 1, none, yX2_restart)
abbrev mX2_callByPlaces : MT := (cX2_callByPlaces, RX2, 2, none, yX2_callByPlaces)
abbrev mX2_unmark : MT := (cX2_unmark, RX2, 1, none, yX2_unmark)
abbrev mX9_clear : MT := (cX9_clear, RX9, 1, none, yX9_clear)
abbrev mX1_open : MT := (cX1_open, RX1, 3, none, yX1_open)
abbrev mX11_stand : MT := (cX11_stand, RX11, 5, some .int, yX11_stand)
abbrev mX11_personAt : MT := (cX11_personAt, RX11, 2, some (.object "MaypoleGreen$Person"), yX11_personAt)
abbrev mX11_isPlace : MT := (cX11_isPlace, RX11, 2, some .boolean, yX11_isPlace)
abbrev mX11_standsInRing : MT := (cX11_standsInRing, RX11, 3, some .boolean, yX11_standsInRing)
abbrev mX11_ribbon : MT := (cX11_ribbon, RX11, 4, some .int, yX11_ribbon)
abbrev mX11_isColour : MT := (cX11_isColour, RX11, 1, some .boolean, yX11_isColour)
abbrev mX11_at : MT := (cX11_at, RX11, 4, some .int, yX11_at)
abbrev mX11_begin : MT := (cX11_begin, RX11, 1, some .int, yX11_begin)
abbrev mX2_copy : MT := (cX2_copy, RX2, 2, none, yX2_copy)
abbrev mX11_end : MT := (cX11_end, RX11, 1, some .int, yX11_end)
abbrev mX2_bringToPlaces : MT := (cX2_bringToPlaces, RX2, 3, none, yX2_bringToPlaces)
abbrev mX11_pass : MT := (cX11_pass, RX11, 3, some .int, yX11_pass)
abbrev mX11_doStep : MT := (cX11_doStep, RX11, 3, some .int, yX11_doStep)
abbrev mX2_take : MT := (cX2_take, RX2, 2, some .int, yX2_take)
abbrev mX2_takeWalk : MT := (cX2_takeWalk, RX2, 4, some .int, yX2_takeWalk)
abbrev mX2_girthNow : MT := (cX2_girthNow, RX2, 1, some .int, yX2_girthNow)
abbrev mX11_behind : MT := (cX11_behind, RX11, 2, some .int, yX11_behind)
abbrev mX2_takePass : MT := (cX2_takePass, RX2, 8, some .int, yX2_takePass)
abbrev mX1_lay : MT := (cX1_lay, RX1, 3, none, yX1_lay)
abbrev mX1_ribbonOnTop : MT := (cX1_ribbonOnTop, RX1, 4, some .int, yX1_ribbonOnTop)
abbrev mX1_markAt : MT := (cX1_markAt, RX1, 3, some .int, yX1_markAt)
abbrev mX11_ahead : MT := (cX11_ahead, RX11, 2, some .int, yX11_ahead)
abbrev mX1_ribbonAt : MT := (cX1_ribbonAt, RX1, 3, some .int, yX1_ribbonAt)
abbrev mX9_add : MT := (cX9_add, RX9, 2, some .boolean, yX9_add)
abbrev mX11_walk : MT := (cX11_walk, RX11, 2, some .int, yX11_walk)
abbrev mX11_girth : MT := (cX11_girth, RX11, 1, some .int, yX11_girth)
abbrev mX11_step : MT := (cX11_step, RX11, 2, some .int, yX11_step)
abbrev mX9_codeAt : MT := (cX9_codeAt, RX9, 2, some .int, yX9_codeAt)
abbrev mX11_rows : MT := (cX11_rows, RX11, 1, some .int, yX11_rows)
abbrev mX11_cloth : MT := (cX11_cloth, RX11, 4, some .int, yX11_cloth)
abbrev mX1_has : MT := (cX1_has, RX1, 3, some .boolean, yX1_has)
abbrev mX1_topAt : MT := (cX1_topAt, RX1, 3, some .int, yX1_topAt)
abbrev mX1_topRibbon : MT := (cX1_topRibbon, RX1, 3, some .int, yX1_topRibbon)
abbrev mX11_beat : MT := (cX11_beat, RX11, 1, some .int, yX11_beat)
abbrev mX1_leastBeat : MT := (cX1_leastBeat, RX1, 2, some .int, yX1_leastBeat)
abbrev mX1_beatsBy : MT := (cX1_beatsBy, RX1, 3, some .boolean, yX1_beatsBy)
abbrev mX1_areLike : MT := (cX1_areLike, RX1, 4, some .boolean, yX1_areLike)
abbrev mX11_picture : MT := (cX11_picture, RX11, 4, some .int, yX11_picture)
abbrev mX6_tell : MT := (cX6_tell, RX6, 4, some .boolean, yX6_tell)
abbrev mX11_pictureless : MT := (cX11_pictureless, RX11, 2, some .int, yX11_pictureless)
abbrev mX11_wrong : MT := (cX11_wrong, RX11, 1, some .int, yX11_wrong)
abbrev mX6_wrongOn : MT := (cX6_wrongOn, RX6, 4, some .int, yX6_wrongOn)
abbrev mX11_colours : MT := (cX11_colours, RX11, 3, some .int, yX11_colours)
abbrev mX6_choose : MT := (cX6_choose, RX6, 4, none, yX6_choose)
abbrev mX6_mostAsked : MT := (cX6_mostAsked, RX6, 5, some .int, yX6_mostAsked)
abbrev mX11_form : MT := (cX11_form, RX11, 4, some .int, yX11_form)
abbrev mX11_figureOrDance : MT := (cX11_figureOrDance, RX11, 2, some (.object "MaypoleGreen$Steps"), yX11_figureOrDance)
abbrev mX7_figureAt : MT := (cX7_figureAt, RX7, 2, some (.object "MaypoleGreen$Steps"), yX7_figureAt)
abbrev mX3_cutDown : MT := (cX3_cutDown, RX3, 5, some .boolean, yX3_cutDown)
abbrev mJ9_floorMod_7cf53 : MT := (cJ9_floorMod_7cf53, RJ9, 3, some .int, yJ9_floorMod_7cf53)
abbrev mX3_meet : MT := (cX3_meet, RX3, 5, none, yX3_meet)
abbrev mX3_linkForward : MT := (cX3_linkForward, RX3, 3, none, yX3_linkForward)
abbrev mX3_putInOrder : MT := (cX3_putInOrder, RX3, 5, none, yX3_putInOrder)
abbrev mX3_leastFree : MT := (cX3_leastFree, RX3, 4, some .int, yX3_leastFree)
abbrev mX11_akin : MT := (cX11_akin, RX11, 5, some .int, yX11_akin)
abbrev mX3_isLike : MT := (cX3_isLike, RX3, 3, some .boolean, yX3_isLike)
abbrev mX11_feed : MT := (cX11_feed, RX11, 3, some .int, yX11_feed)
abbrev mX7_take : MT := (cX7_take, RX7, 4, some .boolean, yX7_take)
abbrev mX11_figure : MT := (cX11_figure, RX11, 2, some .int, yX11_figure)
abbrev mX7_parse : MT := (cX7_parse, RX7, 6, some .int, yX7_parse)
abbrev mX7_open : MT := (cX7_open, RX7, 1, some .int, yX7_open)
abbrev mX7_close : MT := (cX7_close, RX7, 4, some .int, yX7_close)
abbrev mX7_signAt : MT := (cX7_signAt, RX7, 2, some .int, yX7_signAt)
abbrev mX7_undoFrom : MT := (cX7_undoFrom, RX7, 5, none, yX7_undoFrom)
abbrev mX7_repeatFrom : MT := (cX7_repeatFrom, RX7, 6, none, yX7_repeatFrom)
abbrev mX7_put : MT := (cX7_put, RX7, 2, none, yX7_put)
abbrev mX7_single : MT := (cX7_single, RX7, 4, some .int, yX7_single)
abbrev mX7_putAll : MT := (cX7_putAll, RX7, 3, none, yX7_putAll)
abbrev mX7_keep : MT := (cX7_keep, RX7, 2, some .int, yX7_keep)
abbrev mX9_copied : MT := (cX9_copied, RX9, 2, some (.object "MaypoleGreen$Steps"), yX9_copied)
abbrev mX11_told : MT := (cX11_told, RX11, 4, some .int, yX11_told)
abbrev mX11_dance : MT := (cX11_dance, RX11, 4, some .int, yX11_dance)
abbrev mX11_right : MT := (cX11_right, RX11, 3, some .int, yX11_right)
abbrev mX11_weavesOn : MT := (cX11_weavesOn, RX11, 5, some .boolean, yX11_weavesOn)
abbrev mX11_weaves : MT := (cX11_weaves, RX11, 4, some .boolean, yX11_weaves)
abbrev mX1_isRowOf : MT := (cX1_isRowOf, RX1, 4, some .boolean, yX1_isRowOf)
abbrev mX11_slips : MT := (cX11_slips, RX11, 4, some .int, yX11_slips)
abbrev mX11_explained : MT := (cX11_explained, RX11, 8, some .int, yX11_explained)
abbrev mX9_walksIn : MT := (cX9_walksIn, RX9, 3, some .int, yX9_walksIn)
abbrev mX11_weavesSlipped : MT := (cX11_weavesSlipped, RX11, 4, some .boolean, yX11_weavesSlipped)
abbrev mX11_fewest : MT := (cX11_fewest, RX11, 5, some .int, yX11_fewest)
abbrev mX11_tapeAt : MT := (cX11_tapeAt, RX11, 2, some (.object "MaypoleGreen$Tape"), yX11_tapeAt)
abbrev mX4_ask : MT := (cX4_ask, RX4, 5, some .boolean, yX4_ask)
abbrev mX4_search : MT := (cX4_search, RX4, 3, none, yX4_search)
abbrev mX4_passesLeft : MT := (cX4_passesLeft, RX4, 5, some .int, yX4_passesLeft)
abbrev mX4_settleWays : MT := (cX4_settleWays, RX4, 6, none, yX4_settleWays)
abbrev mJ9_floorDiv_7cf53 : MT := (cJ9_floorDiv_7cf53, RJ9, 3, some .int, yJ9_floorDiv_7cf53)
abbrev mJ9_abs_0f7a4 : MT := (cJ9_abs_0f7a4, RJ9, 1, some .int, yJ9_abs_0f7a4)
abbrev mX4_nearer : MT := (cX4_nearer, RX4, 4, some .int, yX4_nearer)
abbrev mX4_swap : MT := (cX4_swap, RX4, 5, none, yX4_swap)
abbrev mX11_set : MT := (cX11_set, RX11, 4, some .int, yX11_set)
abbrev mX11_seatPeople : MT := (cX11_seatPeople, RX11, 5, some .int, yX11_seatPeople)
abbrev mJ6_bitCount_0f7a4 : MT := (cJ6_bitCount_0f7a4, RJ6, 1, some .int, yJ6_bitCount_0f7a4)
abbrev mX8_clear : MT := (cX8_clear, RX8, 1, none, yX8_clear)
abbrev mX8_add : MT := (cX8_add, RX8, 2, none, yX8_add)
abbrev mX8_seatAll : MT := (cX8_seatAll, RX8, 1, none, yX8_seatAll)
abbrev mX8_seatFrom : MT := (cX8_seatFrom, RX8, 6, none, yX8_seatFrom)
abbrev mX8_apart : MT := (cX8_apart, RX8, 3, some .int, yX8_apart)
abbrev mX8_numberAt : MT := (cX8_numberAt, RX8, 2, some .int, yX8_numberAt)
abbrev mX11_spent : MT := (cX11_spent, RX11, 5, some .int, yX11_spent)
abbrev mX8_spentIn : MT := (cX8_spentIn, RX8, 5, some .int, yX8_spentIn)
abbrev mX8_greatestPace : MT := (cX8_greatestPace, RX8, 3, some .int, yX8_greatestPace)
abbrev mJ9_max_7cf53 : MT := (cJ9_max_7cf53, RJ9, 2, some .int, yJ9_max_7cf53)
abbrev mX8_turn : MT := (cX8_turn, RX8, 3, none, yX8_turn)
abbrev mX8_change : MT := (cX8_change, RX8, 4, some .int, yX8_change)
abbrev mX11_act : MT := (cX11_act, RX11, 5, some .int, yX11_act)
abbrev mX0_perform : MT := (cX0_perform, RX0, 4, some .int, yX0_perform)
abbrev mX0_ask : MT := (cX0_ask, RX0, 8, some .int, yX0_ask)
abbrev mX0_note : MT := (cX0_note, RX0, 2, none, yX0_note)
abbrev mX0_run : MT := (cX0_run, RX0, 7, some .int, yX0_run)
abbrev mX11_trace : MT := (cX11_trace, RX11, 2, some .int, yX11_trace)
abbrev mX0_traced : MT := (cX0_traced, RX0, 2, some .int, yX0_traced)
abbrev mX11_taken : MT := (cX11_taken, RX11, 4, some .int, yX11_taken)
abbrev mX5_isOf : MT := (cX5_isOf, RX5, 4, some .boolean, yX5_isOf)
abbrev mX11_count : MT := (cX11_count, RX11, 2, some .int, yX11_count)
abbrev mX11_tape : MT := (cX11_tape, RX11, 5, some .int, yX11_tape)
abbrev mX10_empty : MT := (cX10_empty, RX10, 1, none, yX10_empty)
abbrev mX10_become : MT := (cX10_become, RX10, 3, none, yX10_become)
abbrev mX11_item : MT := (cX11_item, RX11, 5, some .int, yX11_item)
abbrev mX10_cut : MT := (cX10_cut, RX10, 2, some .int, yX10_cut)
abbrev mX11_read : MT := (cX11_read, RX11, 4, some .int, yX11_read)
abbrev mX11_shift : MT := (cX11_shift, RX11, 8, some .int, yX11_shift)
abbrev mX10_holds : MT := (cX10_holds, RX10, 3, some .boolean, yX10_holds)
abbrev mX12_init : MT := (cX12_init, RX12, 1, none, yX12_init)
abbrev mX12_person : MT := (cX12_person, RX12, 4, some .int, yX12_person)
abbrev mX12_in : MT := (cX12_in, RX12, 4, some .boolean, yX12_in)
abbrev mX12_ring : MT := (cX12_ring, RX12, 3, some .int, yX12_ring)
abbrev mX12_stand : MT := (cX12_stand, RX12, 4, some .int, yX12_stand)
abbrev mX12_isPlace : MT := (cX12_isPlace, RX12, 2, some .boolean, yX12_isPlace)
abbrev mX12_isPerson : MT := (cX12_isPerson, RX12, 2, some .boolean, yX12_isPerson)
abbrev mX12_ribbon : MT := (cX12_ribbon, RX12, 4, some .int, yX12_ribbon)
abbrev mX12_at : MT := (cX12_at, RX12, 3, some .int, yX12_at)
abbrev mX12_begin : MT := (cX12_begin, RX12, 2, some .int, yX12_begin)
abbrev mX12_end : MT := (cX12_end, RX12, 2, some .int, yX12_end)
abbrev mX12_girth : MT := (cX12_girth, RX12, 1, some .int, yX12_girth)
abbrev mX12_pass : MT := (cX12_pass, RX12, 8, some .int, yX12_pass)
abbrev mX12_after : MT := (cX12_after, RX12, 2, some .int, yX12_after)
abbrev mX12_walk : MT := (cX12_walk, RX12, 4, some .int, yX12_walk)
abbrev mX12_turn : MT := (cX12_turn, RX12, 5, none, yX12_turn)
abbrev mX12_step : MT := (cX12_step, RX12, 2, some .int, yX12_step)
abbrev mX12_rows : MT := (cX12_rows, RX12, 1, some .int, yX12_rows)
abbrev mX12_cloth : MT := (cX12_cloth, RX12, 4, some .int, yX12_cloth)
abbrev mX12_topRibbon : MT := (cX12_topRibbon, RX12, 3, some .int, yX12_topRibbon)
abbrev mX12_ahead : MT := (cX12_ahead, RX12, 2, some .int, yX12_ahead)
abbrev mX12_beat : MT := (cX12_beat, RX12, 4, some .int, yX12_beat)
abbrev mX12_areLike : MT := (cX12_areLike, RX12, 5, some .boolean, yX12_areLike)
abbrev mX12_picture : MT := (cX12_picture, RX12, 4, some .int, yX12_picture)
abbrev mX12_pictureless : MT := (cX12_pictureless, RX12, 2, some .int, yX12_pictureless)
abbrev mX12_wrong : MT := (cX12_wrong, RX12, 1, some .int, yX12_wrong)
abbrev mX12_wrongWith : MT := (cX12_wrongWith, RX12, 4, some .int, yX12_wrongWith)
abbrev mX12_colours : MT := (cX12_colours, RX12, 9, some .int, yX12_colours)
abbrev mX12_feed : MT := (cX12_feed, RX12, 4, some .int, yX12_feed)
abbrev mX12_figure : MT := (cX12_figure, RX12, 3, some .int, yX12_figure)
abbrev mX12_reads : MT := (cX12_reads, RX12, 4, some .boolean, yX12_reads)
abbrev mX12_next : MT := (cX12_next, RX12, 1, some .int, yX12_next)
abbrev mX12_add : MT := (cX12_add, RX12, 2, none, yX12_add)
abbrev mX12_isFigure : MT := (cX12_isFigure, RX12, 2, some .boolean, yX12_isFigure)
abbrev mX12_repeat : MT := (cX12_repeat, RX12, 6, none, yX12_repeat)
abbrev mX12_undo : MT := (cX12_undo, RX12, 5, none, yX12_undo)
abbrev mX12_undoing : MT := (cX12_undoing, RX12, 2, some .int, yX12_undoing)
abbrev mX12_told : MT := (cX12_told, RX12, 3, some .int, yX12_told)
abbrev mX12_dance : MT := (cX12_dance, RX12, 5, some .int, yX12_dance)
abbrev mX12_form : MT := (cX12_form, RX12, 3, some .int, yX12_form)
abbrev mX12_findForm : MT := (cX12_findForm, RX12, 5, some .boolean, yX12_findForm)
abbrev mX12_stepsOf : MT := (cX12_stepsOf, RX12, 2, some .int, yX12_stepsOf)
abbrev mX12_stepOf : MT := (cX12_stepOf, RX12, 3, some .int, yX12_stepOf)
abbrev mX12_take : MT := (cX12_take, RX12, 4, none, yX12_take)
abbrev mX12_areFar : MT := (cX12_areFar, RX12, 4, some .boolean, yX12_areFar)
abbrev mX12_abs : MT := (cX12_abs, RX12, 2, some .int, yX12_abs)
abbrev mX12_bringLeast : MT := (cX12_bringLeast, RX12, 6, none, yX12_bringLeast)
abbrev mX12_akin : MT := (cX12_akin, RX12, 7, some .int, yX12_akin)
abbrev mX12_right : MT := (cX12_right, RX12, 2, some .int, yX12_right)
abbrev mX12_makes : MT := (cX12_makes, RX12, 6, some .boolean, yX12_makes)
abbrev mX12_tryBegin : MT := (cX12_tryBegin, RX12, 2, none, yX12_tryBegin)
abbrev mX12_tryStep : MT := (cX12_tryStep, RX12, 2, some .boolean, yX12_tryStep)
abbrev mX12_tryWalk : MT := (cX12_tryWalk, RX12, 5, some .boolean, yX12_tryWalk)
abbrev mX12_tryPass : MT := (cX12_tryPass, RX12, 7, some .boolean, yX12_tryPass)
abbrev mX12_slips : MT := (cX12_slips, RX12, 5, some .int, yX12_slips)
abbrev mX12_fewest : MT := (cX12_fewest, RX12, 6, some .int, yX12_fewest)
abbrev mX12_isTape : MT := (cX12_isTape, RX12, 2, some .boolean, yX12_isTape)
abbrev mX12_findFar : MT := (cX12_findFar, RX12, 7, none, yX12_findFar)
abbrev mX12_rank : MT := (cX12_rank, RX12, 6, some .int, yX12_rank)
abbrev mX12_unrank : MT := (cX12_unrank, RX12, 8, none, yX12_unrank)
abbrev mX12_swap : MT := (cX12_swap, RX12, 4, none, yX12_swap)
abbrev mX12_set : MT := (cX12_set, RX12, 4, some .int, yX12_set)
abbrev mX12_findSet : MT := (cX12_findSet, RX12, 7, some .int, yX12_findSet)
abbrev mX12_spent : MT := (cX12_spent, RX12, 9, some .int, yX12_spent)
abbrev mX12_act : MT := (cX12_act, RX12, 4, some .int, yX12_act)
abbrev mX12_greetsOf : MT := (cX12_greetsOf, RX12, 3, some .int, yX12_greetsOf)
abbrev mX12_body : MT := (cX12_body, RX12, 2, none, yX12_body)
abbrev mX12_plainGreets : MT := (cX12_plainGreets, RX12, 3, some .int, yX12_plainGreets)
abbrev mX12_leadsOf : MT := (cX12_leadsOf, RX12, 3, some .int, yX12_leadsOf)
abbrev mX12_leaderLeads : MT := (cX12_leaderLeads, RX12, 4, some .int, yX12_leaderLeads)
abbrev mX12_plainLeads : MT := (cX12_plainLeads, RX12, 3, some .int, yX12_plainLeads)
abbrev mX12_restsOf : MT := (cX12_restsOf, RX12, 4, some .int, yX12_restsOf)
abbrev mX12_plainRests : MT := (cX12_plainRests, RX12, 3, some .int, yX12_plainRests)
abbrev mX12_trace : MT := (cX12_trace, RX12, 2, some .int, yX12_trace)
abbrev mX12_taken : MT := (cX12_taken, RX12, 3, some .int, yX12_taken)
abbrev mX12_count : MT := (cX12_count, RX12, 2, some .int, yX12_count)
abbrev mX12_tape : MT := (cX12_tape, RX12, 5, some .int, yX12_tape)
abbrev mX12_item : MT := (cX12_item, RX12, 4, some .int, yX12_item)
abbrev mX12_narrow : MT := (cX12_narrow, RX12, 3, some .int, yX12_narrow)
abbrev mX12_read : MT := (cX12_read, RX12, 3, some .int, yX12_read)
abbrev mX12_shift : MT := (cX12_shift, RX12, 7, some .int, yX12_shift)
abbrev mL_law : MT := (cL_law, RL, 4, some .boolean, yL_law)
theorem iniL : Cond.initialized RL ∈ gb_LW := tw_ (i := 0) (by decide +kernel) rfl
theorem iniX11 : Cond.initialized RX11 ∈ gb_LW := tw_ (i := 1) (by decide +kernel) rfl
theorem iniX0 : Cond.initialized RX0 ∈ gb_LW := tw_ (i := 2) (by decide +kernel) rfl
theorem iniX2 : Cond.initialized RX2 ∈ gb_LW := tw_ (i := 3) (by decide +kernel) rfl
theorem iniX9 : Cond.initialized RX9 ∈ gb_LW := tw_ (i := 4) (by decide +kernel) rfl
theorem iniX1 : Cond.initialized RX1 ∈ gb_LW := tw_ (i := 5) (by decide +kernel) rfl
theorem iniX6 : Cond.initialized RX6 ∈ gb_LW := tw_ (i := 6) (by decide +kernel) rfl
theorem iniX7 : Cond.initialized RX7 ∈ gb_LW := tw_ (i := 7) (by decide +kernel) rfl
theorem iniX3 : Cond.initialized RX3 ∈ gb_LW := tw_ (i := 8) (by decide +kernel) rfl
theorem iniX4 : Cond.initialized RX4 ∈ gb_LW := tw_ (i := 9) (by decide +kernel) rfl
theorem iniX8 : Cond.initialized RX8 ∈ gb_LW := tw_ (i := 10) (by decide +kernel) rfl
theorem iniX10 : Cond.initialized RX10 ∈ gb_LW := tw_ (i := 11) (by decide +kernel) rfl
theorem iniX12 : Cond.initialized RX12 ∈ gb_LW := tw_ (i := 12) (by decide +kernel) rfl
theorem iniX5 : Cond.initialized RX5 ∈ gb_LW := tw_ (i := 13) (by decide +kernel) rfl
theorem iniJ7 : Cond.initialized RJ7 ∈ gb_LW := tw_ (i := 14) (by decide +kernel) rfl
theorem iniJ10 : Cond.initialized RJ10 ∈ gb_LW := tw_ (i := 15) (by decide +kernel) rfl
theorem iniJ9 : Cond.initialized RJ9 ∈ gb_LW := tw_ (i := 16) (by decide +kernel) rfl
theorem iniJ6 : Cond.initialized RJ6 ∈ gb_LW := tw_ (i := 17) (by decide +kernel) rfl
theorem wl0 : ∀ w ∈ wsX00, w ∈ gb_LW := by
  intro w hw
  refine List.mem_filter.mpr ⟨List.mem_append_right _ ?_, ?_⟩
  · revert w; decide +kernel
  · revert w; decide +kernel
theorem cl0 : gb_cls 0 RX0 TX0 2 tyX0 := ⟨rfl, wl0, tyX0_ok, nmX0, rfl, rfl, tw_ (i := 29) (by decide +kernel) rfl, iniX0, by decide⟩
theorem dv0 : ∀ j, j < 2 → gb_dv (tyX0 j) = true := by decide +kernel
theorem wl1 : ∀ w ∈ wsX10, w ∈ gb_LW := by
  intro w hw
  refine List.mem_filter.mpr ⟨List.mem_append_right _ ?_, ?_⟩
  · revert w; decide +kernel
  · revert w; decide +kernel
theorem cl1 : gb_cls 1 RX1 TX1 6 tyX1 := ⟨rfl, wl1, tyX1_ok, nmX1, rfl, rfl, tw_ (i := 102) (by decide +kernel) rfl, iniX1, by decide⟩
theorem dv1 : ∀ j, j < 6 → gb_dv (tyX1 j) = true := by decide +kernel
theorem wl2 : ∀ w ∈ wsX20, w ∈ gb_LW := by
  intro w hw
  refine List.mem_filter.mpr ⟨List.mem_append_right _ ?_, ?_⟩
  · revert w; decide +kernel
  · revert w; decide +kernel
theorem cl2 : gb_cls 2 RX2 TX2 7 tyX2 := ⟨rfl, wl2, tyX2_ok, nmX2, rfl, rfl, tw_ (i := 44) (by decide +kernel) rfl, iniX2, by decide⟩
theorem dv2 : ∀ j, j < 7 → gb_dv (tyX2 j) = true := by decide +kernel
theorem wl3 : ∀ w ∈ wsX30, w ∈ gb_LW := by
  intro w hw
  refine List.mem_filter.mpr ⟨List.mem_append_right _ ?_, ?_⟩
  · revert w; decide +kernel
  · revert w; decide +kernel
theorem cl3 : gb_cls 3 RX3 TX3 7 tyX3 := ⟨rfl, wl3, tyX3_ok, nmX3, rfl, rfl, tw_ (i := 197) (by decide +kernel) rfl, iniX3, by decide⟩
theorem dv3 : ∀ j, j < 7 → gb_dv (tyX3 j) = true := by decide +kernel
theorem wl4 : ∀ w ∈ wsX40, w ∈ gb_LW := by
  intro w hw
  refine List.mem_filter.mpr ⟨List.mem_append_right _ ?_, ?_⟩
  · revert w; decide +kernel
  · revert w; decide +kernel
theorem cl4 : gb_cls 4 RX4 TX4 5 tyX4 := ⟨rfl, wl4, tyX4_ok, nmX4, rfl, rfl, tw_ (i := 228) (by decide +kernel) rfl, iniX4, by decide⟩
theorem dv4 : ∀ j, j < 5 → gb_dv (tyX4 j) = true := by decide +kernel
theorem wl5 : ∀ w ∈ wsX50, w ∈ gb_LW := by
  intro w hw
  refine List.mem_filter.mpr ⟨List.mem_append_right _ ?_, ?_⟩
  · revert w; decide +kernel
  · revert w; decide +kernel
theorem cl5 : gb_cls 5 RX5 TX5 4 tyX5 := ⟨rfl, wl5, tyX5_ok, nmX5, rfl, rfl, tw_ (i := 365) (by decide +kernel) rfl, iniX5, by decide⟩
theorem dv5 : ∀ j, j < 4 → gb_dv (tyX5 j) = true := by decide +kernel
theorem wl6 : ∀ w ∈ wsX60, w ∈ gb_LW := by
  intro w hw
  refine List.mem_filter.mpr ⟨List.mem_append_right _ ?_, ?_⟩
  · revert w; decide +kernel
  · revert w; decide +kernel
theorem cl6 : gb_cls 6 RX6 TX6 7 tyX6 := ⟨rfl, wl6, tyX6_ok, nmX6, rfl, rfl, tw_ (i := 129) (by decide +kernel) rfl, iniX6, by decide⟩
theorem dv6 : ∀ j, j < 7 → gb_dv (tyX6 j) = true := by decide +kernel
theorem wl7 : ∀ w ∈ wsX70, w ∈ gb_LW := by
  intro w hw
  refine List.mem_filter.mpr ⟨List.mem_append_right _ ?_, ?_⟩
  · revert w; decide +kernel
  · revert w; decide +kernel
theorem cl7 : gb_cls 7 RX7 TX7 8 tyX7 := ⟨rfl, wl7, tyX7_ok, nmX7, rfl, rfl, tw_ (i := 160) (by decide +kernel) rfl, iniX7, by decide⟩
theorem dv7 : ∀ j, j < 8 → gb_dv (tyX7 j) = true := by decide +kernel
theorem wl8 : ∀ w ∈ wsX80, w ∈ gb_LW := by
  intro w hw
  refine List.mem_filter.mpr ⟨List.mem_append_right _ ?_, ?_⟩
  · revert w; decide +kernel
  · revert w; decide +kernel
theorem cl8 : gb_cls 8 RX8 TX8 8 tyX8 := ⟨rfl, wl8, tyX8_ok, nmX8, rfl, rfl, tw_ (i := 252) (by decide +kernel) rfl, iniX8, by decide⟩
theorem dv8 : ∀ j, j < 8 → gb_dv (tyX8 j) = true := by decide +kernel
theorem wl9 : ∀ w ∈ wsX90, w ∈ gb_LW := by
  intro w hw
  refine List.mem_filter.mpr ⟨List.mem_append_right _ ?_, ?_⟩
  · revert w; decide +kernel
  · revert w; decide +kernel
theorem cl9 : gb_cls 9 RX9 TX9 2 tyX9 := ⟨rfl, wl9, tyX9_ok, nmX9, rfl, rfl, tw_ (i := 81) (by decide +kernel) rfl, iniX9, by decide⟩
theorem dv9 : ∀ j, j < 2 → gb_dv (tyX9 j) = true := by decide +kernel
theorem wl10 : ∀ w ∈ wsX100, w ∈ gb_LW := by
  intro w hw
  refine List.mem_filter.mpr ⟨List.mem_append_right _ ?_, ?_⟩
  · revert w; decide +kernel
  · revert w; decide +kernel
theorem cl10 : gb_cls 10 RX10 TX10 3 tyX10 := ⟨rfl, wl10, tyX10_ok, nmX10, rfl, rfl, tw_ (i := 285) (by decide +kernel) rfl, iniX10, by decide⟩
theorem dv10 : ∀ j, j < 3 → gb_dv (tyX10 j) = true := by decide +kernel
theorem wl11 : ∀ w ∈ wsX110, w ∈ gb_LW := by
  intro w hw
  refine List.mem_filter.mpr ⟨List.mem_append_right _ ?_, ?_⟩
  · revert w; decide +kernel
  · revert w; decide +kernel
theorem cl11 : gb_cls 11 RX11 TX11 19 tyX11 := ⟨rfl, wl11, tyX11_ok, nmX11, rfl, rfl, tw_ (i := 19) (by decide +kernel) rfl, iniX11, by decide⟩
theorem dv11 : ∀ j, j < 19 → gb_dv (tyX11 j) = true := by decide +kernel
theorem wl12 : ∀ w ∈ wsX120, w ∈ gb_LW := by
  intro w hw
  refine List.mem_filter.mpr ⟨List.mem_append_right _ ?_, ?_⟩
  · revert w; decide +kernel
  · revert w; decide +kernel
theorem cl12 : gb_cls 12 RX12 TX12 61 tyX12 := ⟨rfl, wl12, tyX12_ok, nmX12, rfl, rfl, tw_ (i := 951) (by decide +kernel) rfl, iniX12, by decide⟩
theorem dv12 : ∀ j, j < 61 → gb_dv (tyX12 j) = true := by decide +kernel
theorem acI : Cond.arrayClass .int ∈ gb_LW := tw_ (i := 42) (by decide +kernel) rfl
theorem fX0_11 : gb_fld RX0 11 0 0 (.array .int) true := ⟨_, _, _, _, cl0, by decide, rfl, rfl, rfl, tw_ (i := 34) (by decide +kernel) rfl⟩
theorem fX0_15 : gb_fld RX0 15 0 1 (.int) false := ⟨_, _, _, _, cl0, by decide, rfl, rfl, rfl, tw_ (i := 35) (by decide +kernel) rfl⟩
theorem fX11_313 : gb_fld RX11 313 0 1 (.int) false := ⟨_, _, _, _, cl0, by decide, rfl, rfl, rfl, tw_ (i := 36) (by decide +kernel) rfl⟩
theorem fX2_9 : gb_fld RX2 9 2 0 (.int) false := ⟨_, _, _, _, cl2, by decide, rfl, rfl, rfl, tw_ (i := 49) (by decide +kernel) rfl⟩
theorem fX4_34 : gb_fld RX4 34 2 0 (.int) false := ⟨_, _, _, _, cl2, by decide, rfl, rfl, rfl, tw_ (i := 50) (by decide +kernel) rfl⟩
theorem fX11_157 : gb_fld RX11 157 2 0 (.int) false := ⟨_, _, _, _, cl2, by decide, rfl, rfl, rfl, tw_ (i := 51) (by decide +kernel) rfl⟩
theorem fX2_15 : gb_fld RX2 15 2 1 (.int) false := ⟨_, _, _, _, cl2, by decide, rfl, rfl, rfl, tw_ (i := 52) (by decide +kernel) rfl⟩
theorem fX2_18 : gb_fld RX2 18 2 2 (.int) false := ⟨_, _, _, _, cl2, by decide, rfl, rfl, rfl, tw_ (i := 53) (by decide +kernel) rfl⟩
theorem fX1_47 : gb_fld RX1 47 2 2 (.int) false := ⟨_, _, _, _, cl2, by decide, rfl, rfl, rfl, tw_ (i := 54) (by decide +kernel) rfl⟩
theorem fX11_364 : gb_fld RX11 364 2 2 (.int) false := ⟨_, _, _, _, cl2, by decide, rfl, rfl, rfl, tw_ (i := 55) (by decide +kernel) rfl⟩
theorem fX2_21 : gb_fld RX2 21 2 3 (.array .int) true := ⟨_, _, _, _, cl2, by decide, rfl, rfl, rfl, tw_ (i := 56) (by decide +kernel) rfl⟩
theorem fX4_39 : gb_fld RX4 39 2 3 (.array .int) true := ⟨_, _, _, _, cl2, by decide, rfl, rfl, rfl, tw_ (i := 57) (by decide +kernel) rfl⟩
theorem fX1_37 : gb_fld RX1 37 2 3 (.array .int) true := ⟨_, _, _, _, cl2, by decide, rfl, rfl, rfl, tw_ (i := 58) (by decide +kernel) rfl⟩
theorem fX11_154 : gb_fld RX11 154 2 3 (.array .int) true := ⟨_, _, _, _, cl2, by decide, rfl, rfl, rfl, tw_ (i := 59) (by decide +kernel) rfl⟩
theorem fX2_25 : gb_fld RX2 25 2 4 (.array .int) true := ⟨_, _, _, _, cl2, by decide, rfl, rfl, rfl, tw_ (i := 60) (by decide +kernel) rfl⟩
theorem fX11_151 : gb_fld RX11 151 2 4 (.array .int) true := ⟨_, _, _, _, cl2, by decide, rfl, rfl, rfl, tw_ (i := 61) (by decide +kernel) rfl⟩
theorem fX2_28 : gb_fld RX2 28 2 5 (.array .int) true := ⟨_, _, _, _, cl2, by decide, rfl, rfl, rfl, tw_ (i := 62) (by decide +kernel) rfl⟩
theorem fX1_42 : gb_fld RX1 42 2 5 (.array .int) true := ⟨_, _, _, _, cl2, by decide, rfl, rfl, rfl, tw_ (i := 63) (by decide +kernel) rfl⟩
theorem fX2_31 : gb_fld RX2 31 2 6 (.array .int) true := ⟨_, _, _, _, cl2, by decide, rfl, rfl, rfl, tw_ (i := 64) (by decide +kernel) rfl⟩
theorem fX9_15 : gb_fld RX9 15 9 0 (.array .int) true := ⟨_, _, _, _, cl9, by decide, rfl, rfl, rfl, tw_ (i := 86) (by decide +kernel) rfl⟩
theorem fX3_43 : gb_fld RX3 43 9 0 (.array .int) true := ⟨_, _, _, _, cl9, by decide, rfl, rfl, rfl, tw_ (i := 87) (by decide +kernel) rfl⟩
theorem fX8_74 : gb_fld RX8 74 9 0 (.array .int) true := ⟨_, _, _, _, cl9, by decide, rfl, rfl, rfl, tw_ (i := 88) (by decide +kernel) rfl⟩
theorem fX7_92 : gb_fld RX7 92 9 0 (.array .int) true := ⟨_, _, _, _, cl9, by decide, rfl, rfl, rfl, tw_ (i := 89) (by decide +kernel) rfl⟩
theorem fX11_267 : gb_fld RX11 267 9 0 (.array .int) true := ⟨_, _, _, _, cl9, by decide, rfl, rfl, rfl, tw_ (i := 90) (by decide +kernel) rfl⟩
theorem fX9_9 : gb_fld RX9 9 9 1 (.int) false := ⟨_, _, _, _, cl9, by decide, rfl, rfl, rfl, tw_ (i := 91) (by decide +kernel) rfl⟩
theorem fX3_40 : gb_fld RX3 40 9 1 (.int) false := ⟨_, _, _, _, cl9, by decide, rfl, rfl, rfl, tw_ (i := 92) (by decide +kernel) rfl⟩
theorem fX7_64 : gb_fld RX7 64 9 1 (.int) false := ⟨_, _, _, _, cl9, by decide, rfl, rfl, rfl, tw_ (i := 93) (by decide +kernel) rfl⟩
theorem fX8_69 : gb_fld RX8 69 9 1 (.int) false := ⟨_, _, _, _, cl9, by decide, rfl, rfl, rfl, tw_ (i := 94) (by decide +kernel) rfl⟩
theorem fX11_174 : gb_fld RX11 174 9 1 (.int) false := ⟨_, _, _, _, cl9, by decide, rfl, rfl, rfl, tw_ (i := 95) (by decide +kernel) rfl⟩
theorem fX1_9 : gb_fld RX1 9 1 0 (.int) false := ⟨_, _, _, _, cl1, by decide, rfl, rfl, rfl, tw_ (i := 107) (by decide +kernel) rfl⟩
theorem fX6_53 : gb_fld RX6 53 1 0 (.int) false := ⟨_, _, _, _, cl1, by decide, rfl, rfl, rfl, tw_ (i := 108) (by decide +kernel) rfl⟩
theorem fX1_15 : gb_fld RX1 15 1 1 (.int) false := ⟨_, _, _, _, cl1, by decide, rfl, rfl, rfl, tw_ (i := 109) (by decide +kernel) rfl⟩
theorem fX11_188 : gb_fld RX11 188 1 1 (.int) false := ⟨_, _, _, _, cl1, by decide, rfl, rfl, rfl, tw_ (i := 110) (by decide +kernel) rfl⟩
theorem fX1_18 : gb_fld RX1 18 1 2 (.array .int) true := ⟨_, _, _, _, cl1, by decide, rfl, rfl, rfl, tw_ (i := 111) (by decide +kernel) rfl⟩
theorem fX1_22 : gb_fld RX1 22 1 3 (.array .int) true := ⟨_, _, _, _, cl1, by decide, rfl, rfl, rfl, tw_ (i := 112) (by decide +kernel) rfl⟩
theorem fX1_25 : gb_fld RX1 25 1 4 (.array .int) true := ⟨_, _, _, _, cl1, by decide, rfl, rfl, rfl, tw_ (i := 113) (by decide +kernel) rfl⟩
theorem fX1_28 : gb_fld RX1 28 1 5 (.array .int) true := ⟨_, _, _, _, cl1, by decide, rfl, rfl, rfl, tw_ (i := 114) (by decide +kernel) rfl⟩
theorem fX6_9 : gb_fld RX6 9 6 0 (.array .int) true := ⟨_, _, _, _, cl6, by decide, rfl, rfl, rfl, tw_ (i := 134) (by decide +kernel) rfl⟩
theorem fX6_15 : gb_fld RX6 15 6 1 (.array .int) true := ⟨_, _, _, _, cl6, by decide, rfl, rfl, rfl, tw_ (i := 135) (by decide +kernel) rfl⟩
theorem fX6_18 : gb_fld RX6 18 6 2 (.array .int) true := ⟨_, _, _, _, cl6, by decide, rfl, rfl, rfl, tw_ (i := 136) (by decide +kernel) rfl⟩
theorem fX6_21 : gb_fld RX6 21 6 3 (.int) false := ⟨_, _, _, _, cl6, by decide, rfl, rfl, rfl, tw_ (i := 137) (by decide +kernel) rfl⟩
theorem fX11_212 : gb_fld RX11 212 6 3 (.int) false := ⟨_, _, _, _, cl6, by decide, rfl, rfl, rfl, tw_ (i := 138) (by decide +kernel) rfl⟩
theorem fX6_25 : gb_fld RX6 25 6 4 (.array .int) true := ⟨_, _, _, _, cl6, by decide, rfl, rfl, rfl, tw_ (i := 139) (by decide +kernel) rfl⟩
theorem fX6_28 : gb_fld RX6 28 6 5 (.array .int) true := ⟨_, _, _, _, cl6, by decide, rfl, rfl, rfl, tw_ (i := 140) (by decide +kernel) rfl⟩
theorem fX11_224 : gb_fld RX11 224 6 5 (.array .int) true := ⟨_, _, _, _, cl6, by decide, rfl, rfl, rfl, tw_ (i := 141) (by decide +kernel) rfl⟩
theorem fX6_31 : gb_fld RX6 31 6 6 (.int) false := ⟨_, _, _, _, cl6, by decide, rfl, rfl, rfl, tw_ (i := 142) (by decide +kernel) rfl⟩
theorem fX11_221 : gb_fld RX11 221 6 6 (.int) false := ⟨_, _, _, _, cl6, by decide, rfl, rfl, rfl, tw_ (i := 143) (by decide +kernel) rfl⟩
theorem fX7_11 : gb_fld RX7 11 7 0 (.array (.object "MaypoleGreen$Steps")) true := ⟨_, _, _, _, cl7, by decide, rfl, rfl, rfl, tw_ (i := 168) (by decide +kernel) rfl⟩
theorem fX7_17 : gb_fld RX7 17 7 1 (.int) false := ⟨_, _, _, _, cl7, by decide, rfl, rfl, rfl, tw_ (i := 169) (by decide +kernel) rfl⟩
theorem fX11_252 : gb_fld RX11 252 7 1 (.int) false := ⟨_, _, _, _, cl7, by decide, rfl, rfl, rfl, tw_ (i := 170) (by decide +kernel) rfl⟩
theorem fX7_21 : gb_fld RX7 21 7 2 (.array .int) true := ⟨_, _, _, _, cl7, by decide, rfl, rfl, rfl, tw_ (i := 171) (by decide +kernel) rfl⟩
theorem fX7_25 : gb_fld RX7 25 7 3 (.int) false := ⟨_, _, _, _, cl7, by decide, rfl, rfl, rfl, tw_ (i := 172) (by decide +kernel) rfl⟩
theorem fX11_249 : gb_fld RX11 249 7 3 (.int) false := ⟨_, _, _, _, cl7, by decide, rfl, rfl, rfl, tw_ (i := 173) (by decide +kernel) rfl⟩
theorem fX7_31 : gb_fld RX7 31 7 4 (.object "MaypoleGreen$Steps") true := ⟨_, _, _, _, cl7, by decide, rfl, rfl, rfl, tw_ (i := 174) (by decide +kernel) rfl⟩
theorem fX7_35 : gb_fld RX7 35 7 5 (.boolean) false := ⟨_, _, _, _, cl7, by decide, rfl, rfl, rfl, tw_ (i := 175) (by decide +kernel) rfl⟩
theorem fX11_258 : gb_fld RX11 258 7 5 (.boolean) false := ⟨_, _, _, _, cl7, by decide, rfl, rfl, rfl, tw_ (i := 176) (by decide +kernel) rfl⟩
theorem fX7_39 : gb_fld RX7 39 7 6 (.array .int) true := ⟨_, _, _, _, cl7, by decide, rfl, rfl, rfl, tw_ (i := 177) (by decide +kernel) rfl⟩
theorem fX7_42 : gb_fld RX7 42 7 7 (.int) false := ⟨_, _, _, _, cl7, by decide, rfl, rfl, rfl, tw_ (i := 178) (by decide +kernel) rfl⟩
theorem fX3_9 : gb_fld RX3 9 3 0 (.int) false := ⟨_, _, _, _, cl3, by decide, rfl, rfl, rfl, tw_ (i := 202) (by decide +kernel) rfl⟩
theorem fX11_235 : gb_fld RX11 235 3 0 (.int) false := ⟨_, _, _, _, cl3, by decide, rfl, rfl, rfl, tw_ (i := 203) (by decide +kernel) rfl⟩
theorem fX3_15 : gb_fld RX3 15 3 1 (.int) false := ⟨_, _, _, _, cl3, by decide, rfl, rfl, rfl, tw_ (i := 204) (by decide +kernel) rfl⟩
theorem fX11_238 : gb_fld RX11 238 3 1 (.int) false := ⟨_, _, _, _, cl3, by decide, rfl, rfl, rfl, tw_ (i := 205) (by decide +kernel) rfl⟩
theorem fX3_18 : gb_fld RX3 18 3 2 (.array .int) true := ⟨_, _, _, _, cl3, by decide, rfl, rfl, rfl, tw_ (i := 206) (by decide +kernel) rfl⟩
theorem fX11_239 : gb_fld RX11 239 3 2 (.array .int) true := ⟨_, _, _, _, cl3, by decide, rfl, rfl, rfl, tw_ (i := 207) (by decide +kernel) rfl⟩
theorem fX3_22 : gb_fld RX3 22 3 3 (.array .int) true := ⟨_, _, _, _, cl3, by decide, rfl, rfl, rfl, tw_ (i := 208) (by decide +kernel) rfl⟩
theorem fX3_25 : gb_fld RX3 25 3 4 (.int) false := ⟨_, _, _, _, cl3, by decide, rfl, rfl, rfl, tw_ (i := 209) (by decide +kernel) rfl⟩
theorem fX3_28 : gb_fld RX3 28 3 5 (.array .int) true := ⟨_, _, _, _, cl3, by decide, rfl, rfl, rfl, tw_ (i := 210) (by decide +kernel) rfl⟩
theorem fX3_31 : gb_fld RX3 31 3 6 (.array .int) true := ⟨_, _, _, _, cl3, by decide, rfl, rfl, rfl, tw_ (i := 211) (by decide +kernel) rfl⟩
theorem fX4_9 : gb_fld RX4 9 4 0 (.array .int) true := ⟨_, _, _, _, cl4, by decide, rfl, rfl, rfl, tw_ (i := 233) (by decide +kernel) rfl⟩
theorem fX4_15 : gb_fld RX4 15 4 1 (.array .int) true := ⟨_, _, _, _, cl4, by decide, rfl, rfl, rfl, tw_ (i := 234) (by decide +kernel) rfl⟩
theorem fX4_18 : gb_fld RX4 18 4 2 (.array .int) true := ⟨_, _, _, _, cl4, by decide, rfl, rfl, rfl, tw_ (i := 235) (by decide +kernel) rfl⟩
theorem fX4_21 : gb_fld RX4 21 4 3 (.array .int) true := ⟨_, _, _, _, cl4, by decide, rfl, rfl, rfl, tw_ (i := 236) (by decide +kernel) rfl⟩
theorem fX11_297 : gb_fld RX11 297 4 3 (.array .int) true := ⟨_, _, _, _, cl4, by decide, rfl, rfl, rfl, tw_ (i := 237) (by decide +kernel) rfl⟩
theorem fX4_24 : gb_fld RX4 24 4 4 (.int) false := ⟨_, _, _, _, cl4, by decide, rfl, rfl, rfl, tw_ (i := 238) (by decide +kernel) rfl⟩
theorem fX11_296 : gb_fld RX11 296 4 4 (.int) false := ⟨_, _, _, _, cl4, by decide, rfl, rfl, rfl, tw_ (i := 239) (by decide +kernel) rfl⟩
theorem fX8_9 : gb_fld RX8 9 8 0 (.int) false := ⟨_, _, _, _, cl8, by decide, rfl, rfl, rfl, tw_ (i := 257) (by decide +kernel) rfl⟩
theorem fX8_15 : gb_fld RX8 15 8 1 (.array .int) true := ⟨_, _, _, _, cl8, by decide, rfl, rfl, rfl, tw_ (i := 258) (by decide +kernel) rfl⟩
theorem fX8_19 : gb_fld RX8 19 8 2 (.array .int) true := ⟨_, _, _, _, cl8, by decide, rfl, rfl, rfl, tw_ (i := 259) (by decide +kernel) rfl⟩
theorem fX8_22 : gb_fld RX8 22 8 3 (.array .int) true := ⟨_, _, _, _, cl8, by decide, rfl, rfl, rfl, tw_ (i := 260) (by decide +kernel) rfl⟩
theorem fX8_25 : gb_fld RX8 25 8 4 (.array .int) true := ⟨_, _, _, _, cl8, by decide, rfl, rfl, rfl, tw_ (i := 261) (by decide +kernel) rfl⟩
theorem fX8_28 : gb_fld RX8 28 8 5 (.array .int) true := ⟨_, _, _, _, cl8, by decide, rfl, rfl, rfl, tw_ (i := 262) (by decide +kernel) rfl⟩
theorem fX8_31 : gb_fld RX8 31 8 6 (.array .int) true := ⟨_, _, _, _, cl8, by decide, rfl, rfl, rfl, tw_ (i := 263) (by decide +kernel) rfl⟩
theorem fX8_34 : gb_fld RX8 34 8 7 (.int) false := ⟨_, _, _, _, cl8, by decide, rfl, rfl, rfl, tw_ (i := 264) (by decide +kernel) rfl⟩
theorem fX11_303 : gb_fld RX11 303 8 7 (.int) false := ⟨_, _, _, _, cl8, by decide, rfl, rfl, rfl, tw_ (i := 265) (by decide +kernel) rfl⟩
theorem fX10_9 : gb_fld RX10 9 10 0 (.int) false := ⟨_, _, _, _, cl10, by decide, rfl, rfl, rfl, tw_ (i := 290) (by decide +kernel) rfl⟩
theorem fX11_282 : gb_fld RX11 282 10 0 (.int) false := ⟨_, _, _, _, cl10, by decide, rfl, rfl, rfl, tw_ (i := 291) (by decide +kernel) rfl⟩
theorem fX10_15 : gb_fld RX10 15 10 1 (.int) false := ⟨_, _, _, _, cl10, by decide, rfl, rfl, rfl, tw_ (i := 292) (by decide +kernel) rfl⟩
theorem fX11_285 : gb_fld RX11 285 10 1 (.int) false := ⟨_, _, _, _, cl10, by decide, rfl, rfl, rfl, tw_ (i := 293) (by decide +kernel) rfl⟩
theorem fX10_18 : gb_fld RX10 18 10 2 (.array .int) true := ⟨_, _, _, _, cl10, by decide, rfl, rfl, rfl, tw_ (i := 294) (by decide +kernel) rfl⟩
theorem fX11_286 : gb_fld RX11 286 10 2 (.array .int) true := ⟨_, _, _, _, cl10, by decide, rfl, rfl, rfl, tw_ (i := 295) (by decide +kernel) rfl⟩
theorem fX11_11 : gb_fld RX11 11 11 0 (.array (.object "MaypoleGreen$Person")) true := ⟨_, _, _, _, cl11, by decide, rfl, rfl, rfl, tw_ (i := 303) (by decide +kernel) rfl⟩
theorem fX11_15 : gb_fld RX11 15 11 1 (.int) false := ⟨_, _, _, _, cl11, by decide, rfl, rfl, rfl, tw_ (i := 304) (by decide +kernel) rfl⟩
theorem fX11_22 : gb_fld RX11 22 11 2 (.object "MaypoleGreen$Acts") true := ⟨_, _, _, _, cl11, by decide, rfl, rfl, rfl, tw_ (i := 305) (by decide +kernel) rfl⟩
theorem fX11_26 : gb_fld RX11 26 11 3 (.array .int) true := ⟨_, _, _, _, cl11, by decide, rfl, rfl, rfl, tw_ (i := 306) (by decide +kernel) rfl⟩
theorem fX11_30 : gb_fld RX11 30 11 4 (.array .int) true := ⟨_, _, _, _, cl11, by decide, rfl, rfl, rfl, tw_ (i := 307) (by decide +kernel) rfl⟩
theorem fX11_36 : gb_fld RX11 36 11 5 (.object "MaypoleGreen$Floor") true := ⟨_, _, _, _, cl11, by decide, rfl, rfl, rfl, tw_ (i := 308) (by decide +kernel) rfl⟩
theorem fX11_40 : gb_fld RX11 40 11 6 (.boolean) false := ⟨_, _, _, _, cl11, by decide, rfl, rfl, rfl, tw_ (i := 309) (by decide +kernel) rfl⟩
theorem fX11_49 : gb_fld RX11 49 11 7 (.object "MaypoleGreen$Steps") true := ⟨_, _, _, _, cl11, by decide, rfl, rfl, rfl, tw_ (i := 310) (by decide +kernel) rfl⟩
theorem fX11_56 : gb_fld RX11 56 11 8 (.object "MaypoleGreen$Cloth") true := ⟨_, _, _, _, cl11, by decide, rfl, rfl, rfl, tw_ (i := 311) (by decide +kernel) rfl⟩
theorem fX11_63 : gb_fld RX11 63 11 9 (.object "MaypoleGreen$Picture") true := ⟨_, _, _, _, cl11, by decide, rfl, rfl, rfl, tw_ (i := 312) (by decide +kernel) rfl⟩
theorem fX11_67 : gb_fld RX11 67 11 10 (.object "MaypoleGreen$Floor") true := ⟨_, _, _, _, cl11, by decide, rfl, rfl, rfl, tw_ (i := 313) (by decide +kernel) rfl⟩
theorem fX11_70 : gb_fld RX11 70 11 11 (.object "MaypoleGreen$Floor") true := ⟨_, _, _, _, cl11, by decide, rfl, rfl, rfl, tw_ (i := 314) (by decide +kernel) rfl⟩
theorem fX11_73 : gb_fld RX11 73 11 12 (.object "MaypoleGreen$Floor") true := ⟨_, _, _, _, cl11, by decide, rfl, rfl, rfl, tw_ (i := 315) (by decide +kernel) rfl⟩
theorem fX11_79 : gb_fld RX11 79 11 13 (.object "MaypoleGreen$Reader") true := ⟨_, _, _, _, cl11, by decide, rfl, rfl, rfl, tw_ (i := 316) (by decide +kernel) rfl⟩
theorem fX11_86 : gb_fld RX11 86 11 14 (.object "MaypoleGreen$Form") true := ⟨_, _, _, _, cl11, by decide, rfl, rfl, rfl, tw_ (i := 317) (by decide +kernel) rfl⟩
theorem fX11_90 : gb_fld RX11 90 11 15 (.object "MaypoleGreen$Form") true := ⟨_, _, _, _, cl11, by decide, rfl, rfl, rfl, tw_ (i := 318) (by decide +kernel) rfl⟩
theorem fX11_96 : gb_fld RX11 96 11 16 (.object "MaypoleGreen$Orders") true := ⟨_, _, _, _, cl11, by decide, rfl, rfl, rfl, tw_ (i := 319) (by decide +kernel) rfl⟩
theorem fX11_103 : gb_fld RX11 103 11 17 (.object "MaypoleGreen$Seating") true := ⟨_, _, _, _, cl11, by decide, rfl, rfl, rfl, tw_ (i := 320) (by decide +kernel) rfl⟩
theorem fX11_109 : gb_fld RX11 109 11 18 (.array (.object "MaypoleGreen$Tape")) true := ⟨_, _, _, _, cl11, by decide, rfl, rfl, rfl, tw_ (i := 321) (by decide +kernel) rfl⟩
theorem fX5_9 : gb_fld RX5 9 5 0 (.int) true := ⟨_, _, _, _, cl5, by decide, rfl, rfl, rfl, tw_ (i := 370) (by decide +kernel) rfl⟩
theorem fX8_37 : gb_fld RX8 37 5 0 (.int) true := ⟨_, _, _, _, cl5, by decide, rfl, rfl, rfl, tw_ (i := 371) (by decide +kernel) rfl⟩
theorem fX0_47 : gb_fld RX0 47 5 0 (.int) true := ⟨_, _, _, _, cl5, by decide, rfl, rfl, rfl, tw_ (i := 372) (by decide +kernel) rfl⟩
theorem fX5_15 : gb_fld RX5 15 5 1 (.int) true := ⟨_, _, _, _, cl5, by decide, rfl, rfl, rfl, tw_ (i := 373) (by decide +kernel) rfl⟩
theorem fX0_19 : gb_fld RX0 19 5 1 (.int) true := ⟨_, _, _, _, cl5, by decide, rfl, rfl, rfl, tw_ (i := 374) (by decide +kernel) rfl⟩
theorem fX11_144 : gb_fld RX11 144 5 1 (.int) true := ⟨_, _, _, _, cl5, by decide, rfl, rfl, rfl, tw_ (i := 375) (by decide +kernel) rfl⟩
theorem fX5_18 : gb_fld RX5 18 5 2 (.int) true := ⟨_, _, _, _, cl5, by decide, rfl, rfl, rfl, tw_ (i := 376) (by decide +kernel) rfl⟩
theorem fX8_42 : gb_fld RX8 42 5 2 (.int) true := ⟨_, _, _, _, cl5, by decide, rfl, rfl, rfl, tw_ (i := 377) (by decide +kernel) rfl⟩
theorem fX0_41 : gb_fld RX0 41 5 2 (.int) true := ⟨_, _, _, _, cl5, by decide, rfl, rfl, rfl, tw_ (i := 378) (by decide +kernel) rfl⟩
theorem fX5_21 : gb_fld RX5 21 5 3 (.int) true := ⟨_, _, _, _, cl5, by decide, rfl, rfl, rfl, tw_ (i := 379) (by decide +kernel) rfl⟩
theorem fX8_45 : gb_fld RX8 45 5 3 (.int) true := ⟨_, _, _, _, cl5, by decide, rfl, rfl, rfl, tw_ (i := 380) (by decide +kernel) rfl⟩
theorem fX0_44 : gb_fld RX0 44 5 3 (.int) true := ⟨_, _, _, _, cl5, by decide, rfl, rfl, rfl, tw_ (i := 381) (by decide +kernel) rfl⟩
theorem fX12_7 : gb_fld RX12 7 12 0 (.int) false := ⟨_, _, _, _, cl12, by decide, rfl, rfl, rfl, tw_ (i := 956) (by decide +kernel) rfl⟩
theorem fX12_13 : gb_fld RX12 13 12 1 (.int) false := ⟨_, _, _, _, cl12, by decide, rfl, rfl, rfl, tw_ (i := 957) (by decide +kernel) rfl⟩
theorem fX12_16 : gb_fld RX12 16 12 2 (.array .int) true := ⟨_, _, _, _, cl12, by decide, rfl, rfl, rfl, tw_ (i := 958) (by decide +kernel) rfl⟩
theorem fX12_20 : gb_fld RX12 20 12 3 (.array .int) true := ⟨_, _, _, _, cl12, by decide, rfl, rfl, rfl, tw_ (i := 959) (by decide +kernel) rfl⟩
theorem fX12_23 : gb_fld RX12 23 12 4 (.array .int) true := ⟨_, _, _, _, cl12, by decide, rfl, rfl, rfl, tw_ (i := 960) (by decide +kernel) rfl⟩
theorem fX12_26 : gb_fld RX12 26 12 5 (.array .int) true := ⟨_, _, _, _, cl12, by decide, rfl, rfl, rfl, tw_ (i := 961) (by decide +kernel) rfl⟩
theorem fX12_29 : gb_fld RX12 29 12 6 (.array .int) true := ⟨_, _, _, _, cl12, by decide, rfl, rfl, rfl, tw_ (i := 962) (by decide +kernel) rfl⟩
theorem fX12_32 : gb_fld RX12 32 12 7 (.array .int) true := ⟨_, _, _, _, cl12, by decide, rfl, rfl, rfl, tw_ (i := 963) (by decide +kernel) rfl⟩
theorem fX12_35 : gb_fld RX12 35 12 8 (.array .int) true := ⟨_, _, _, _, cl12, by decide, rfl, rfl, rfl, tw_ (i := 964) (by decide +kernel) rfl⟩
theorem fX12_38 : gb_fld RX12 38 12 9 (.array .int) true := ⟨_, _, _, _, cl12, by decide, rfl, rfl, rfl, tw_ (i := 965) (by decide +kernel) rfl⟩
theorem fX12_41 : gb_fld RX12 41 12 10 (.array .int) true := ⟨_, _, _, _, cl12, by decide, rfl, rfl, rfl, tw_ (i := 966) (by decide +kernel) rfl⟩
theorem fX12_44 : gb_fld RX12 44 12 11 (.boolean) false := ⟨_, _, _, _, cl12, by decide, rfl, rfl, rfl, tw_ (i := 967) (by decide +kernel) rfl⟩
theorem fX12_48 : gb_fld RX12 48 12 12 (.array .int) true := ⟨_, _, _, _, cl12, by decide, rfl, rfl, rfl, tw_ (i := 968) (by decide +kernel) rfl⟩
theorem fX12_51 : gb_fld RX12 51 12 13 (.array .int) true := ⟨_, _, _, _, cl12, by decide, rfl, rfl, rfl, tw_ (i := 969) (by decide +kernel) rfl⟩
theorem fX12_54 : gb_fld RX12 54 12 14 (.int) false := ⟨_, _, _, _, cl12, by decide, rfl, rfl, rfl, tw_ (i := 970) (by decide +kernel) rfl⟩
theorem fX12_57 : gb_fld RX12 57 12 15 (.int) false := ⟨_, _, _, _, cl12, by decide, rfl, rfl, rfl, tw_ (i := 971) (by decide +kernel) rfl⟩
theorem fX12_60 : gb_fld RX12 60 12 16 (.array .int) true := ⟨_, _, _, _, cl12, by decide, rfl, rfl, rfl, tw_ (i := 972) (by decide +kernel) rfl⟩
theorem fX12_63 : gb_fld RX12 63 12 17 (.array .int) true := ⟨_, _, _, _, cl12, by decide, rfl, rfl, rfl, tw_ (i := 973) (by decide +kernel) rfl⟩
theorem fX12_66 : gb_fld RX12 66 12 18 (.array .int) true := ⟨_, _, _, _, cl12, by decide, rfl, rfl, rfl, tw_ (i := 974) (by decide +kernel) rfl⟩
theorem fX12_69 : gb_fld RX12 69 12 19 (.array .int) true := ⟨_, _, _, _, cl12, by decide, rfl, rfl, rfl, tw_ (i := 975) (by decide +kernel) rfl⟩
theorem fX12_72 : gb_fld RX12 72 12 20 (.int) false := ⟨_, _, _, _, cl12, by decide, rfl, rfl, rfl, tw_ (i := 976) (by decide +kernel) rfl⟩
theorem fX12_75 : gb_fld RX12 75 12 21 (.array .int) true := ⟨_, _, _, _, cl12, by decide, rfl, rfl, rfl, tw_ (i := 977) (by decide +kernel) rfl⟩
theorem fX12_78 : gb_fld RX12 78 12 22 (.array .int) true := ⟨_, _, _, _, cl12, by decide, rfl, rfl, rfl, tw_ (i := 978) (by decide +kernel) rfl⟩
theorem fX12_81 : gb_fld RX12 81 12 23 (.array .int) true := ⟨_, _, _, _, cl12, by decide, rfl, rfl, rfl, tw_ (i := 979) (by decide +kernel) rfl⟩
theorem fX12_84 : gb_fld RX12 84 12 24 (.array .int) true := ⟨_, _, _, _, cl12, by decide, rfl, rfl, rfl, tw_ (i := 980) (by decide +kernel) rfl⟩
theorem fX12_87 : gb_fld RX12 87 12 25 (.array .int) true := ⟨_, _, _, _, cl12, by decide, rfl, rfl, rfl, tw_ (i := 981) (by decide +kernel) rfl⟩
theorem fX12_90 : gb_fld RX12 90 12 26 (.int) false := ⟨_, _, _, _, cl12, by decide, rfl, rfl, rfl, tw_ (i := 982) (by decide +kernel) rfl⟩
theorem fX12_93 : gb_fld RX12 93 12 27 (.int) false := ⟨_, _, _, _, cl12, by decide, rfl, rfl, rfl, tw_ (i := 983) (by decide +kernel) rfl⟩
theorem fX12_96 : gb_fld RX12 96 12 28 (.array .int) true := ⟨_, _, _, _, cl12, by decide, rfl, rfl, rfl, tw_ (i := 984) (by decide +kernel) rfl⟩
theorem fX12_99 : gb_fld RX12 99 12 29 (.array .int) true := ⟨_, _, _, _, cl12, by decide, rfl, rfl, rfl, tw_ (i := 985) (by decide +kernel) rfl⟩
theorem fX12_102 : gb_fld RX12 102 12 30 (.array .int) true := ⟨_, _, _, _, cl12, by decide, rfl, rfl, rfl, tw_ (i := 986) (by decide +kernel) rfl⟩
theorem fX12_105 : gb_fld RX12 105 12 31 (.int) false := ⟨_, _, _, _, cl12, by decide, rfl, rfl, rfl, tw_ (i := 987) (by decide +kernel) rfl⟩
theorem fX12_108 : gb_fld RX12 108 12 32 (.boolean) false := ⟨_, _, _, _, cl12, by decide, rfl, rfl, rfl, tw_ (i := 988) (by decide +kernel) rfl⟩
theorem fX12_111 : gb_fld RX12 111 12 33 (.array .int) true := ⟨_, _, _, _, cl12, by decide, rfl, rfl, rfl, tw_ (i := 989) (by decide +kernel) rfl⟩
theorem fX12_114 : gb_fld RX12 114 12 34 (.array .int) true := ⟨_, _, _, _, cl12, by decide, rfl, rfl, rfl, tw_ (i := 990) (by decide +kernel) rfl⟩
theorem fX12_117 : gb_fld RX12 117 12 35 (.array .int) true := ⟨_, _, _, _, cl12, by decide, rfl, rfl, rfl, tw_ (i := 991) (by decide +kernel) rfl⟩
theorem fX12_120 : gb_fld RX12 120 12 36 (.array .int) true := ⟨_, _, _, _, cl12, by decide, rfl, rfl, rfl, tw_ (i := 992) (by decide +kernel) rfl⟩
theorem fX12_123 : gb_fld RX12 123 12 37 (.int) false := ⟨_, _, _, _, cl12, by decide, rfl, rfl, rfl, tw_ (i := 993) (by decide +kernel) rfl⟩
theorem fX12_126 : gb_fld RX12 126 12 38 (.int) false := ⟨_, _, _, _, cl12, by decide, rfl, rfl, rfl, tw_ (i := 994) (by decide +kernel) rfl⟩
theorem fX12_129 : gb_fld RX12 129 12 39 (.array .int) true := ⟨_, _, _, _, cl12, by decide, rfl, rfl, rfl, tw_ (i := 995) (by decide +kernel) rfl⟩
theorem fX12_132 : gb_fld RX12 132 12 40 (.array .int) true := ⟨_, _, _, _, cl12, by decide, rfl, rfl, rfl, tw_ (i := 996) (by decide +kernel) rfl⟩
theorem fX12_135 : gb_fld RX12 135 12 41 (.array .int) true := ⟨_, _, _, _, cl12, by decide, rfl, rfl, rfl, tw_ (i := 997) (by decide +kernel) rfl⟩
theorem fX12_138 : gb_fld RX12 138 12 42 (.int) false := ⟨_, _, _, _, cl12, by decide, rfl, rfl, rfl, tw_ (i := 998) (by decide +kernel) rfl⟩
theorem fX12_141 : gb_fld RX12 141 12 43 (.int) false := ⟨_, _, _, _, cl12, by decide, rfl, rfl, rfl, tw_ (i := 999) (by decide +kernel) rfl⟩
theorem fX12_144 : gb_fld RX12 144 12 44 (.array .int) true := ⟨_, _, _, _, cl12, by decide, rfl, rfl, rfl, tw_ (i := 1000) (by decide +kernel) rfl⟩
theorem fX12_147 : gb_fld RX12 147 12 45 (.array .int) true := ⟨_, _, _, _, cl12, by decide, rfl, rfl, rfl, tw_ (i := 1001) (by decide +kernel) rfl⟩
theorem fX12_150 : gb_fld RX12 150 12 46 (.array .int) true := ⟨_, _, _, _, cl12, by decide, rfl, rfl, rfl, tw_ (i := 1002) (by decide +kernel) rfl⟩
theorem fX12_153 : gb_fld RX12 153 12 47 (.array .int) true := ⟨_, _, _, _, cl12, by decide, rfl, rfl, rfl, tw_ (i := 1003) (by decide +kernel) rfl⟩
theorem fX12_156 : gb_fld RX12 156 12 48 (.array .int) true := ⟨_, _, _, _, cl12, by decide, rfl, rfl, rfl, tw_ (i := 1004) (by decide +kernel) rfl⟩
theorem fX12_159 : gb_fld RX12 159 12 49 (.int) false := ⟨_, _, _, _, cl12, by decide, rfl, rfl, rfl, tw_ (i := 1005) (by decide +kernel) rfl⟩
theorem fX12_162 : gb_fld RX12 162 12 50 (.array .int) true := ⟨_, _, _, _, cl12, by decide, rfl, rfl, rfl, tw_ (i := 1006) (by decide +kernel) rfl⟩
theorem fX12_165 : gb_fld RX12 165 12 51 (.array .int) true := ⟨_, _, _, _, cl12, by decide, rfl, rfl, rfl, tw_ (i := 1007) (by decide +kernel) rfl⟩
theorem fX12_168 : gb_fld RX12 168 12 52 (.array .int) true := ⟨_, _, _, _, cl12, by decide, rfl, rfl, rfl, tw_ (i := 1008) (by decide +kernel) rfl⟩
theorem fX12_171 : gb_fld RX12 171 12 53 (.array .int) true := ⟨_, _, _, _, cl12, by decide, rfl, rfl, rfl, tw_ (i := 1009) (by decide +kernel) rfl⟩
theorem fX12_174 : gb_fld RX12 174 12 54 (.int) false := ⟨_, _, _, _, cl12, by decide, rfl, rfl, rfl, tw_ (i := 1010) (by decide +kernel) rfl⟩
theorem fX12_177 : gb_fld RX12 177 12 55 (.int) false := ⟨_, _, _, _, cl12, by decide, rfl, rfl, rfl, tw_ (i := 1011) (by decide +kernel) rfl⟩
theorem fX12_180 : gb_fld RX12 180 12 56 (.array .int) true := ⟨_, _, _, _, cl12, by decide, rfl, rfl, rfl, tw_ (i := 1012) (by decide +kernel) rfl⟩
theorem fX12_183 : gb_fld RX12 183 12 57 (.array .int) true := ⟨_, _, _, _, cl12, by decide, rfl, rfl, rfl, tw_ (i := 1013) (by decide +kernel) rfl⟩
theorem fX12_186 : gb_fld RX12 186 12 58 (.array .int) true := ⟨_, _, _, _, cl12, by decide, rfl, rfl, rfl, tw_ (i := 1014) (by decide +kernel) rfl⟩
theorem fX12_189 : gb_fld RX12 189 12 59 (.array .int) true := ⟨_, _, _, _, cl12, by decide, rfl, rfl, rfl, tw_ (i := 1015) (by decide +kernel) rfl⟩
theorem fX12_192 : gb_fld RX12 192 12 60 (.array .int) true := ⟨_, _, _, _, cl12, by decide, rfl, rfl, rfl, tw_ (i := 1016) (by decide +kernel) rfl⟩
theorem kL_7 : Cond.classLink RL 7 RX11 ∈ gb_LW := tw_ (i := 18) (by decide +kernel) rfl
theorem kX11_9 : Cond.classLink RX11 9 RX5 ∈ gb_LW := tw_ (i := 26) (by decide +kernel) rfl
theorem kX11_19 : Cond.classLink RX11 19 RX0 ∈ gb_LW := tw_ (i := 28) (by decide +kernel) rfl
theorem kX11_33 : Cond.classLink RX11 33 RX2 ∈ gb_LW := tw_ (i := 43) (by decide +kernel) rfl
theorem kX11_44 : Cond.classLink RX11 44 RX9 ∈ gb_LW := tw_ (i := 80) (by decide +kernel) rfl
theorem kX11_53 : Cond.classLink RX11 53 RX1 ∈ gb_LW := tw_ (i := 101) (by decide +kernel) rfl
theorem kX11_60 : Cond.classLink RX11 60 RX6 ∈ gb_LW := tw_ (i := 128) (by decide +kernel) rfl
theorem kX11_76 : Cond.classLink RX11 76 RX7 ∈ gb_LW := tw_ (i := 159) (by decide +kernel) rfl
theorem kX7_9 : Cond.classLink RX7 9 RX9 ∈ gb_LW := tw_ (i := 165) (by decide +kernel) rfl
theorem kX11_83 : Cond.classLink RX11 83 RX3 ∈ gb_LW := tw_ (i := 196) (by decide +kernel) rfl
theorem kX11_93 : Cond.classLink RX11 93 RX4 ∈ gb_LW := tw_ (i := 227) (by decide +kernel) rfl
theorem kX11_100 : Cond.classLink RX11 100 RX8 ∈ gb_LW := tw_ (i := 251) (by decide +kernel) rfl
theorem kX11_107 : Cond.classLink RX11 107 RX10 ∈ gb_LW := tw_ (i := 283) (by decide +kernel) rfl
theorem kX9_10 : Cond.classLink RX9 10 RX9 ∈ gb_LW := tw_ (i := 722) (by decide +kernel) rfl
theorem kL_10 : Cond.classLink RL 10 RX12 ∈ gb_LW := tw_ (i := 950) (by decide +kernel) rfl
theorem nX11_150 : Cond.constant RX11 150 (Int32.ofInt (99999)) ∈ gb_LW := tw_ (i := 449) (by decide +kernel) rfl
theorem nJ6_265 : Cond.constant RJ6 265 (Int32.ofInt (1431655765)) ∈ gb_LW := tw_ (i := 816) (by decide +kernel) rfl
theorem nJ6_266 : Cond.constant RJ6 266 (Int32.ofInt (858993459)) ∈ gb_LW := tw_ (i := 817) (by decide +kernel) rfl
theorem nJ6_267 : Cond.constant RJ6 267 (Int32.ofInt (252645135)) ∈ gb_LW := tw_ (i := 818) (by decide +kernel) rfl
theorem nX8_48 : Cond.constant RX8 48 (Int32.ofInt (1000000)) ∈ gb_LW := tw_ (i := 831) (by decide +kernel) rfl
theorem nX11_336 : Cond.constant RX11 336 (Int32.ofInt (-1000000000)) ∈ gb_LW := tw_ (i := 940) (by decide +kernel) rfl
theorem nX12_206 : Cond.constant RX12 206 (Int32.ofInt (99999)) ∈ gb_LW := tw_ (i := 1168) (by decide +kernel) rfl
theorem nX12_316 : Cond.constant RX12 316 (Int32.ofInt (1000000)) ∈ gb_LW := tw_ (i := 1392) (by decide +kernel) rfl
theorem nX12_344 : Cond.constant RX12 344 (Int32.ofInt (65535)) ∈ gb_LW := tw_ (i := 1457) (by decide +kernel) rfl
theorem nX12_348 : Cond.constant RX12 348 (Int32.ofInt (-1000000000)) ∈ gb_LW := tw_ (i := 1462) (by decide +kernel) rfl
theorem cbX11_init : gb_cb mX11_init 0 := ⟨iniX11, tw_ (i := 22) (by decide +kernel) rfl, ⟨by decide +kernel, by decide +kernel, by decide +kernel⟩, by decide⟩
theorem ivX11_init : Cond.instanceMethod yX11_init ∈ gb_LW := tw_ (i := 21) (by decide +kernel) rfl
theorem cbX0_init : gb_cb mX0_init 0 := ⟨iniX0, tw_ (i := 32) (by decide +kernel) rfl, ⟨by decide +kernel, by decide +kernel, by decide +kernel⟩, by decide⟩
theorem ivX0_init : Cond.instanceMethod yX0_init ∈ gb_LW := tw_ (i := 31) (by decide +kernel) rfl
theorem cbX2_init : gb_cb mX2_init 0 := ⟨iniX2, tw_ (i := 47) (by decide +kernel) rfl, ⟨by decide +kernel, by decide +kernel, by decide +kernel⟩, by decide⟩
theorem ivX2_init : Cond.instanceMethod yX2_init ∈ gb_LW := tw_ (i := 46) (by decide +kernel) rfl
theorem cbX9_init : gb_cb mX9_init 1 := ⟨iniX9, tw_ (i := 84) (by decide +kernel) rfl, ⟨by decide +kernel, by decide +kernel, by decide +kernel⟩, by decide⟩
theorem ivX9_init : Cond.instanceMethod yX9_init ∈ gb_LW := tw_ (i := 83) (by decide +kernel) rfl
theorem cbX1_init : gb_cb mX1_init 0 := ⟨iniX1, tw_ (i := 105) (by decide +kernel) rfl, ⟨by decide +kernel, by decide +kernel, by decide +kernel⟩, by decide⟩
theorem ivX1_init : Cond.instanceMethod yX1_init ∈ gb_LW := tw_ (i := 104) (by decide +kernel) rfl
theorem cbX6_init : gb_cb mX6_init 0 := ⟨iniX6, tw_ (i := 132) (by decide +kernel) rfl, ⟨by decide +kernel, by decide +kernel, by decide +kernel⟩, by decide⟩
theorem ivX6_init : Cond.instanceMethod yX6_init ∈ gb_LW := tw_ (i := 131) (by decide +kernel) rfl
theorem cbX7_init : gb_cb mX7_init 0 := ⟨iniX7, tw_ (i := 163) (by decide +kernel) rfl, ⟨by decide +kernel, by decide +kernel, by decide +kernel⟩, by decide⟩
theorem ivX7_init : Cond.instanceMethod yX7_init ∈ gb_LW := tw_ (i := 162) (by decide +kernel) rfl
theorem cbX3_init : gb_cb mX3_init 0 := ⟨iniX3, tw_ (i := 200) (by decide +kernel) rfl, ⟨by decide +kernel, by decide +kernel, by decide +kernel⟩, by decide⟩
theorem ivX3_init : Cond.instanceMethod yX3_init ∈ gb_LW := tw_ (i := 199) (by decide +kernel) rfl
theorem cbX4_init : gb_cb mX4_init 0 := ⟨iniX4, tw_ (i := 231) (by decide +kernel) rfl, ⟨by decide +kernel, by decide +kernel, by decide +kernel⟩, by decide⟩
theorem ivX4_init : Cond.instanceMethod yX4_init ∈ gb_LW := tw_ (i := 230) (by decide +kernel) rfl
theorem cbX8_init : gb_cb mX8_init 0 := ⟨iniX8, tw_ (i := 255) (by decide +kernel) rfl, ⟨by decide +kernel, by decide +kernel, by decide +kernel⟩, by decide⟩
theorem ivX8_init : Cond.instanceMethod yX8_init ∈ gb_LW := tw_ (i := 254) (by decide +kernel) rfl
theorem cbX10_init : gb_cb mX10_init 0 := ⟨iniX10, tw_ (i := 288) (by decide +kernel) rfl, ⟨by decide +kernel, by decide +kernel, by decide +kernel⟩, by decide⟩
theorem ivX10_init : Cond.instanceMethod yX10_init ∈ gb_LW := tw_ (i := 287) (by decide +kernel) rfl
theorem cbX11_person : gb_cb mX11_person 3 := ⟨iniX11, tw_ (i := 364) (by decide +kernel) rfl, ⟨by decide +kernel, by decide +kernel, by decide +kernel⟩, by decide⟩
theorem ivX11_person : Cond.instanceMethod yX11_person ∈ gb_LW := tw_ (i := 362) (by decide +kernel) rfl
theorem slX11_person : Cond.selects yX11_person.cls yX11_person yX11_person ∈ gb_LW := tw_ (i := 363) (by decide +kernel) rfl
theorem cbX5_init : gb_cb mX5_init 4 := ⟨iniX5, tw_ (i := 368) (by decide +kernel) rfl, ⟨by decide +kernel, by decide +kernel, by decide +kernel⟩, by decide⟩
theorem ivX5_init : Cond.instanceMethod yX5_init ∈ gb_LW := tw_ (i := 367) (by decide +kernel) rfl
theorem cbX11_ring : gb_cb mX11_ring 1 := ⟨iniX11, tw_ (i := 394) (by decide +kernel) rfl, ⟨by decide +kernel, by decide +kernel, by decide +kernel⟩, by decide⟩
theorem ivX11_ring : Cond.instanceMethod yX11_ring ∈ gb_LW := tw_ (i := 392) (by decide +kernel) rfl
theorem slX11_ring : Cond.selects yX11_ring.cls yX11_ring yX11_ring ∈ gb_LW := tw_ (i := 393) (by decide +kernel) rfl
theorem cbX2_lay : gb_cb mX2_lay 1 := ⟨iniX2, tw_ (i := 398) (by decide +kernel) rfl, ⟨by decide +kernel, by decide +kernel, by decide +kernel⟩, by decide⟩
theorem ivX2_lay : Cond.instanceMethod yX2_lay ∈ gb_LW := tw_ (i := 396) (by decide +kernel) rfl
theorem slX2_lay : Cond.selects yX2_lay.cls yX2_lay yX2_lay ∈ gb_LW := tw_ (i := 397) (by decide +kernel) rfl
theorem cbJ7_fill_53178 : gb_cb mJ7_fill_53178 2 := ⟨iniJ7, tw_ (i := 401) (by decide +kernel) rfl, ⟨by decide +kernel, by decide +kernel, by decide +kernel⟩, by decide⟩
theorem svJ7_fill_53178 : Cond.static yJ7_fill_53178 ∈ gb_LW := tw_ (i := 400) (by decide +kernel) rfl
theorem cbX2_restart : gb_cb mX2_restart 0 := ⟨iniX2, tw_ (i := 405) (by decide +kernel) rfl, ⟨by decide +kernel, by decide +kernel, by decide +kernel⟩, by decide⟩
theorem ivX2_restart : Cond.instanceMethod yX2_restart ∈ gb_LW := tw_ (i := 403) (by decide +kernel) rfl
theorem slX2_restart : Cond.selects yX2_restart.cls yX2_restart yX2_restart ∈ gb_LW := tw_ (i := 404) (by decide +kernel) rfl
theorem cbX2_callByPlaces : gb_cb mX2_callByPlaces 0 := ⟨iniX2, tw_ (i := 409) (by decide +kernel) rfl, ⟨by decide +kernel, by decide +kernel, by decide +kernel⟩, by decide⟩
theorem ivX2_callByPlaces : Cond.instanceMethod yX2_callByPlaces ∈ gb_LW := tw_ (i := 407) (by decide +kernel) rfl
theorem slX2_callByPlaces : Cond.selects yX2_callByPlaces.cls yX2_callByPlaces yX2_callByPlaces ∈ gb_LW := tw_ (i := 408) (by decide +kernel) rfl
theorem cbX2_unmark : gb_cb mX2_unmark 0 := ⟨iniX2, tw_ (i := 413) (by decide +kernel) rfl, ⟨by decide +kernel, by decide +kernel, by decide +kernel⟩, by decide⟩
theorem ivX2_unmark : Cond.instanceMethod yX2_unmark ∈ gb_LW := tw_ (i := 411) (by decide +kernel) rfl
theorem slX2_unmark : Cond.selects yX2_unmark.cls yX2_unmark yX2_unmark ∈ gb_LW := tw_ (i := 412) (by decide +kernel) rfl
theorem cbX9_clear : gb_cb mX9_clear 0 := ⟨iniX9, tw_ (i := 418) (by decide +kernel) rfl, ⟨by decide +kernel, by decide +kernel, by decide +kernel⟩, by decide⟩
theorem ivX9_clear : Cond.instanceMethod yX9_clear ∈ gb_LW := tw_ (i := 416) (by decide +kernel) rfl
theorem slX9_clear : Cond.selects yX9_clear.cls yX9_clear yX9_clear ∈ gb_LW := tw_ (i := 417) (by decide +kernel) rfl
theorem cbX1_open : gb_cb mX1_open 2 := ⟨iniX1, tw_ (i := 422) (by decide +kernel) rfl, ⟨by decide +kernel, by decide +kernel, by decide +kernel⟩, by decide⟩
theorem ivX1_open : Cond.instanceMethod yX1_open ∈ gb_LW := tw_ (i := 420) (by decide +kernel) rfl
theorem slX1_open : Cond.selects yX1_open.cls yX1_open yX1_open ∈ gb_LW := tw_ (i := 421) (by decide +kernel) rfl
theorem cbX11_stand : gb_cb mX11_stand 2 := ⟨iniX11, tw_ (i := 429) (by decide +kernel) rfl, ⟨by decide +kernel, by decide +kernel, by decide +kernel⟩, by decide⟩
theorem ivX11_stand : Cond.instanceMethod yX11_stand ∈ gb_LW := tw_ (i := 427) (by decide +kernel) rfl
theorem slX11_stand : Cond.selects yX11_stand.cls yX11_stand yX11_stand ∈ gb_LW := tw_ (i := 428) (by decide +kernel) rfl
theorem cbX11_personAt : gb_cb mX11_personAt 1 := ⟨iniX11, tw_ (i := 433) (by decide +kernel) rfl, ⟨by decide +kernel, by decide +kernel, by decide +kernel⟩, by decide⟩
theorem ivX11_personAt : Cond.instanceMethod yX11_personAt ∈ gb_LW := tw_ (i := 432) (by decide +kernel) rfl
theorem slX11_personAt : Cond.selects yX11_personAt.cls yX11_personAt yX11_personAt ∈ gb_LW := ts_ (i := 0) (by decide +kernel) rfl
theorem cbX11_isPlace : gb_cb mX11_isPlace 1 := ⟨iniX11, tw_ (i := 437) (by decide +kernel) rfl, ⟨by decide +kernel, by decide +kernel, by decide +kernel⟩, by decide⟩
theorem ivX11_isPlace : Cond.instanceMethod yX11_isPlace ∈ gb_LW := tw_ (i := 436) (by decide +kernel) rfl
theorem slX11_isPlace : Cond.selects yX11_isPlace.cls yX11_isPlace yX11_isPlace ∈ gb_LW := ts_ (i := 1) (by decide +kernel) rfl
theorem cbX11_standsInRing : gb_cb mX11_standsInRing 1 := ⟨iniX11, tw_ (i := 441) (by decide +kernel) rfl, ⟨by decide +kernel, by decide +kernel, by decide +kernel⟩, by decide⟩
theorem ivX11_standsInRing : Cond.instanceMethod yX11_standsInRing ∈ gb_LW := tw_ (i := 440) (by decide +kernel) rfl
theorem slX11_standsInRing : Cond.selects yX11_standsInRing.cls yX11_standsInRing yX11_standsInRing ∈ gb_LW := ts_ (i := 2) (by decide +kernel) rfl
theorem cbX11_ribbon : gb_cb mX11_ribbon 3 := ⟨iniX11, tw_ (i := 445) (by decide +kernel) rfl, ⟨by decide +kernel, by decide +kernel, by decide +kernel⟩, by decide⟩
theorem ivX11_ribbon : Cond.instanceMethod yX11_ribbon ∈ gb_LW := tw_ (i := 443) (by decide +kernel) rfl
theorem slX11_ribbon : Cond.selects yX11_ribbon.cls yX11_ribbon yX11_ribbon ∈ gb_LW := tw_ (i := 444) (by decide +kernel) rfl
theorem cbX11_isColour : gb_cb mX11_isColour 1 := ⟨iniX11, tw_ (i := 448) (by decide +kernel) rfl, ⟨by decide +kernel, by decide +kernel, by decide +kernel⟩, by decide⟩
theorem svX11_isColour : Cond.static yX11_isColour ∈ gb_LW := tw_ (i := 447) (by decide +kernel) rfl
theorem cbX11_at : gb_cb mX11_at 2 := ⟨iniX11, tw_ (i := 453) (by decide +kernel) rfl, ⟨by decide +kernel, by decide +kernel, by decide +kernel⟩, by decide⟩
theorem ivX11_at : Cond.instanceMethod yX11_at ∈ gb_LW := tw_ (i := 451) (by decide +kernel) rfl
theorem slX11_at : Cond.selects yX11_at.cls yX11_at yX11_at ∈ gb_LW := tw_ (i := 452) (by decide +kernel) rfl
theorem cbX11_begin : gb_cb mX11_begin 0 := ⟨iniX11, tw_ (i := 457) (by decide +kernel) rfl, ⟨by decide +kernel, by decide +kernel, by decide +kernel⟩, by decide⟩
theorem ivX11_begin : Cond.instanceMethod yX11_begin ∈ gb_LW := tw_ (i := 455) (by decide +kernel) rfl
theorem slX11_begin : Cond.selects yX11_begin.cls yX11_begin yX11_begin ∈ gb_LW := tw_ (i := 456) (by decide +kernel) rfl
theorem cbX2_copy : gb_cb mX2_copy 1 := ⟨iniX2, tw_ (i := 462) (by decide +kernel) rfl, ⟨by decide +kernel, by decide +kernel, by decide +kernel⟩, by decide⟩
theorem ivX2_copy : Cond.instanceMethod yX2_copy ∈ gb_LW := tw_ (i := 460) (by decide +kernel) rfl
theorem slX2_copy : Cond.selects yX2_copy.cls yX2_copy yX2_copy ∈ gb_LW := tw_ (i := 461) (by decide +kernel) rfl
theorem cbX11_end : gb_cb mX11_end 0 := ⟨iniX11, tw_ (i := 467) (by decide +kernel) rfl, ⟨by decide +kernel, by decide +kernel, by decide +kernel⟩, by decide⟩
theorem ivX11_end : Cond.instanceMethod yX11_end ∈ gb_LW := tw_ (i := 465) (by decide +kernel) rfl
theorem slX11_end : Cond.selects yX11_end.cls yX11_end yX11_end ∈ gb_LW := tw_ (i := 466) (by decide +kernel) rfl
theorem cbX2_bringToPlaces : gb_cb mX2_bringToPlaces 1 := ⟨iniX2, tw_ (i := 471) (by decide +kernel) rfl, ⟨by decide +kernel, by decide +kernel, by decide +kernel⟩, by decide⟩
theorem ivX2_bringToPlaces : Cond.instanceMethod yX2_bringToPlaces ∈ gb_LW := tw_ (i := 469) (by decide +kernel) rfl
theorem slX2_bringToPlaces : Cond.selects yX2_bringToPlaces.cls yX2_bringToPlaces yX2_bringToPlaces ∈ gb_LW := tw_ (i := 470) (by decide +kernel) rfl
theorem cbX11_pass : gb_cb mX11_pass 2 := ⟨iniX11, tw_ (i := 476) (by decide +kernel) rfl, ⟨by decide +kernel, by decide +kernel, by decide +kernel⟩, by decide⟩
theorem ivX11_pass : Cond.instanceMethod yX11_pass ∈ gb_LW := tw_ (i := 474) (by decide +kernel) rfl
theorem slX11_pass : Cond.selects yX11_pass.cls yX11_pass yX11_pass ∈ gb_LW := tw_ (i := 475) (by decide +kernel) rfl
theorem cbX11_doStep : gb_cb mX11_doStep 1 := ⟨iniX11, tw_ (i := 480) (by decide +kernel) rfl, ⟨by decide +kernel, by decide +kernel, by decide +kernel⟩, by decide⟩
theorem ivX11_doStep : Cond.instanceMethod yX11_doStep ∈ gb_LW := tw_ (i := 479) (by decide +kernel) rfl
theorem slX11_doStep : Cond.selects yX11_doStep.cls yX11_doStep yX11_doStep ∈ gb_LW := ts_ (i := 3) (by decide +kernel) rfl
theorem cbX2_take : gb_cb mX2_take 1 := ⟨iniX2, tw_ (i := 484) (by decide +kernel) rfl, ⟨by decide +kernel, by decide +kernel, by decide +kernel⟩, by decide⟩
theorem ivX2_take : Cond.instanceMethod yX2_take ∈ gb_LW := tw_ (i := 482) (by decide +kernel) rfl
theorem slX2_take : Cond.selects yX2_take.cls yX2_take yX2_take ∈ gb_LW := tw_ (i := 483) (by decide +kernel) rfl
theorem cbX2_takeWalk : gb_cb mX2_takeWalk 1 := ⟨iniX2, tw_ (i := 488) (by decide +kernel) rfl, ⟨by decide +kernel, by decide +kernel, by decide +kernel⟩, by decide⟩
theorem ivX2_takeWalk : Cond.instanceMethod yX2_takeWalk ∈ gb_LW := tw_ (i := 487) (by decide +kernel) rfl
theorem slX2_takeWalk : Cond.selects yX2_takeWalk.cls yX2_takeWalk yX2_takeWalk ∈ gb_LW := ts_ (i := 4) (by decide +kernel) rfl
theorem cbX2_girthNow : gb_cb mX2_girthNow 0 := ⟨iniX2, tw_ (i := 492) (by decide +kernel) rfl, ⟨by decide +kernel, by decide +kernel, by decide +kernel⟩, by decide⟩
theorem ivX2_girthNow : Cond.instanceMethod yX2_girthNow ∈ gb_LW := tw_ (i := 490) (by decide +kernel) rfl
theorem slX2_girthNow : Cond.selects yX2_girthNow.cls yX2_girthNow yX2_girthNow ∈ gb_LW := tw_ (i := 491) (by decide +kernel) rfl
theorem cbX11_behind : gb_cb mX11_behind 2 := ⟨iniX11, tw_ (i := 495) (by decide +kernel) rfl, ⟨by decide +kernel, by decide +kernel, by decide +kernel⟩, by decide⟩
theorem svX11_behind : Cond.static yX11_behind ∈ gb_LW := tw_ (i := 494) (by decide +kernel) rfl
theorem cbX2_takePass : gb_cb mX2_takePass 2 := ⟨iniX2, tw_ (i := 499) (by decide +kernel) rfl, ⟨by decide +kernel, by decide +kernel, by decide +kernel⟩, by decide⟩
theorem ivX2_takePass : Cond.instanceMethod yX2_takePass ∈ gb_LW := tw_ (i := 498) (by decide +kernel) rfl
theorem slX2_takePass : Cond.selects yX2_takePass.cls yX2_takePass yX2_takePass ∈ gb_LW := ts_ (i := 5) (by decide +kernel) rfl
theorem cbX1_lay : gb_cb mX1_lay 1 := ⟨iniX1, tw_ (i := 503) (by decide +kernel) rfl, ⟨by decide +kernel, by decide +kernel, by decide +kernel⟩, by decide⟩
theorem ivX1_lay : Cond.instanceMethod yX1_lay ∈ gb_LW := tw_ (i := 501) (by decide +kernel) rfl
theorem slX1_lay : Cond.selects yX1_lay.cls yX1_lay yX1_lay ∈ gb_LW := tw_ (i := 502) (by decide +kernel) rfl
theorem cbX1_ribbonOnTop : gb_cb mX1_ribbonOnTop 2 := ⟨iniX1, tw_ (i := 507) (by decide +kernel) rfl, ⟨by decide +kernel, by decide +kernel, by decide +kernel⟩, by decide⟩
theorem ivX1_ribbonOnTop : Cond.instanceMethod yX1_ribbonOnTop ∈ gb_LW := tw_ (i := 506) (by decide +kernel) rfl
theorem slX1_ribbonOnTop : Cond.selects yX1_ribbonOnTop.cls yX1_ribbonOnTop yX1_ribbonOnTop ∈ gb_LW := ts_ (i := 6) (by decide +kernel) rfl
theorem cbX1_markAt : gb_cb mX1_markAt 2 := ⟨iniX1, tw_ (i := 511) (by decide +kernel) rfl, ⟨by decide +kernel, by decide +kernel, by decide +kernel⟩, by decide⟩
theorem ivX1_markAt : Cond.instanceMethod yX1_markAt ∈ gb_LW := tw_ (i := 509) (by decide +kernel) rfl
theorem slX1_markAt : Cond.selects yX1_markAt.cls yX1_markAt yX1_markAt ∈ gb_LW := tw_ (i := 510) (by decide +kernel) rfl
theorem cbX11_ahead : gb_cb mX11_ahead 2 := ⟨iniX11, tw_ (i := 514) (by decide +kernel) rfl, ⟨by decide +kernel, by decide +kernel, by decide +kernel⟩, by decide⟩
theorem svX11_ahead : Cond.static yX11_ahead ∈ gb_LW := tw_ (i := 513) (by decide +kernel) rfl
theorem cbX1_ribbonAt : gb_cb mX1_ribbonAt 2 := ⟨iniX1, tw_ (i := 519) (by decide +kernel) rfl, ⟨by decide +kernel, by decide +kernel, by decide +kernel⟩, by decide⟩
theorem ivX1_ribbonAt : Cond.instanceMethod yX1_ribbonAt ∈ gb_LW := tw_ (i := 517) (by decide +kernel) rfl
theorem slX1_ribbonAt : Cond.selects yX1_ribbonAt.cls yX1_ribbonAt yX1_ribbonAt ∈ gb_LW := tw_ (i := 518) (by decide +kernel) rfl
theorem cbX9_add : gb_cb mX9_add 1 := ⟨iniX9, tw_ (i := 524) (by decide +kernel) rfl, ⟨by decide +kernel, by decide +kernel, by decide +kernel⟩, by decide⟩
theorem ivX9_add : Cond.instanceMethod yX9_add ∈ gb_LW := tw_ (i := 522) (by decide +kernel) rfl
theorem slX9_add : Cond.selects yX9_add.cls yX9_add yX9_add ∈ gb_LW := tw_ (i := 523) (by decide +kernel) rfl
theorem cbX11_walk : gb_cb mX11_walk 1 := ⟨iniX11, tw_ (i := 528) (by decide +kernel) rfl, ⟨by decide +kernel, by decide +kernel, by decide +kernel⟩, by decide⟩
theorem ivX11_walk : Cond.instanceMethod yX11_walk ∈ gb_LW := tw_ (i := 526) (by decide +kernel) rfl
theorem slX11_walk : Cond.selects yX11_walk.cls yX11_walk yX11_walk ∈ gb_LW := tw_ (i := 527) (by decide +kernel) rfl
theorem cbX11_girth : gb_cb mX11_girth 0 := ⟨iniX11, tw_ (i := 532) (by decide +kernel) rfl, ⟨by decide +kernel, by decide +kernel, by decide +kernel⟩, by decide⟩
theorem ivX11_girth : Cond.instanceMethod yX11_girth ∈ gb_LW := tw_ (i := 530) (by decide +kernel) rfl
theorem slX11_girth : Cond.selects yX11_girth.cls yX11_girth yX11_girth ∈ gb_LW := tw_ (i := 531) (by decide +kernel) rfl
theorem cbX11_step : gb_cb mX11_step 1 := ⟨iniX11, tw_ (i := 537) (by decide +kernel) rfl, ⟨by decide +kernel, by decide +kernel, by decide +kernel⟩, by decide⟩
theorem ivX11_step : Cond.instanceMethod yX11_step ∈ gb_LW := tw_ (i := 535) (by decide +kernel) rfl
theorem slX11_step : Cond.selects yX11_step.cls yX11_step yX11_step ∈ gb_LW := tw_ (i := 536) (by decide +kernel) rfl
theorem cbX9_codeAt : gb_cb mX9_codeAt 1 := ⟨iniX9, tw_ (i := 541) (by decide +kernel) rfl, ⟨by decide +kernel, by decide +kernel, by decide +kernel⟩, by decide⟩
theorem ivX9_codeAt : Cond.instanceMethod yX9_codeAt ∈ gb_LW := tw_ (i := 539) (by decide +kernel) rfl
theorem slX9_codeAt : Cond.selects yX9_codeAt.cls yX9_codeAt yX9_codeAt ∈ gb_LW := tw_ (i := 540) (by decide +kernel) rfl
theorem cbX11_rows : gb_cb mX11_rows 0 := ⟨iniX11, tw_ (i := 545) (by decide +kernel) rfl, ⟨by decide +kernel, by decide +kernel, by decide +kernel⟩, by decide⟩
theorem ivX11_rows : Cond.instanceMethod yX11_rows ∈ gb_LW := tw_ (i := 543) (by decide +kernel) rfl
theorem slX11_rows : Cond.selects yX11_rows.cls yX11_rows yX11_rows ∈ gb_LW := tw_ (i := 544) (by decide +kernel) rfl
theorem cbX11_cloth : gb_cb mX11_cloth 3 := ⟨iniX11, tw_ (i := 549) (by decide +kernel) rfl, ⟨by decide +kernel, by decide +kernel, by decide +kernel⟩, by decide⟩
theorem ivX11_cloth : Cond.instanceMethod yX11_cloth ∈ gb_LW := tw_ (i := 547) (by decide +kernel) rfl
theorem slX11_cloth : Cond.selects yX11_cloth.cls yX11_cloth yX11_cloth ∈ gb_LW := tw_ (i := 548) (by decide +kernel) rfl
theorem cbX1_has : gb_cb mX1_has 2 := ⟨iniX1, tw_ (i := 553) (by decide +kernel) rfl, ⟨by decide +kernel, by decide +kernel, by decide +kernel⟩, by decide⟩
theorem ivX1_has : Cond.instanceMethod yX1_has ∈ gb_LW := tw_ (i := 551) (by decide +kernel) rfl
theorem slX1_has : Cond.selects yX1_has.cls yX1_has yX1_has ∈ gb_LW := tw_ (i := 552) (by decide +kernel) rfl
theorem cbX1_topAt : gb_cb mX1_topAt 2 := ⟨iniX1, tw_ (i := 559) (by decide +kernel) rfl, ⟨by decide +kernel, by decide +kernel, by decide +kernel⟩, by decide⟩
theorem ivX1_topAt : Cond.instanceMethod yX1_topAt ∈ gb_LW := tw_ (i := 557) (by decide +kernel) rfl
theorem slX1_topAt : Cond.selects yX1_topAt.cls yX1_topAt yX1_topAt ∈ gb_LW := tw_ (i := 558) (by decide +kernel) rfl
theorem cbX1_topRibbon : gb_cb mX1_topRibbon 2 := ⟨iniX1, tw_ (i := 563) (by decide +kernel) rfl, ⟨by decide +kernel, by decide +kernel, by decide +kernel⟩, by decide⟩
theorem ivX1_topRibbon : Cond.instanceMethod yX1_topRibbon ∈ gb_LW := tw_ (i := 561) (by decide +kernel) rfl
theorem slX1_topRibbon : Cond.selects yX1_topRibbon.cls yX1_topRibbon yX1_topRibbon ∈ gb_LW := tw_ (i := 562) (by decide +kernel) rfl
theorem cbX11_beat : gb_cb mX11_beat 0 := ⟨iniX11, tw_ (i := 567) (by decide +kernel) rfl, ⟨by decide +kernel, by decide +kernel, by decide +kernel⟩, by decide⟩
theorem ivX11_beat : Cond.instanceMethod yX11_beat ∈ gb_LW := tw_ (i := 565) (by decide +kernel) rfl
theorem slX11_beat : Cond.selects yX11_beat.cls yX11_beat yX11_beat ∈ gb_LW := tw_ (i := 566) (by decide +kernel) rfl
theorem cbX1_leastBeat : gb_cb mX1_leastBeat 0 := ⟨iniX1, tw_ (i := 571) (by decide +kernel) rfl, ⟨by decide +kernel, by decide +kernel, by decide +kernel⟩, by decide⟩
theorem ivX1_leastBeat : Cond.instanceMethod yX1_leastBeat ∈ gb_LW := tw_ (i := 569) (by decide +kernel) rfl
theorem slX1_leastBeat : Cond.selects yX1_leastBeat.cls yX1_leastBeat yX1_leastBeat ∈ gb_LW := tw_ (i := 570) (by decide +kernel) rfl
theorem cbX1_beatsBy : gb_cb mX1_beatsBy 1 := ⟨iniX1, tw_ (i := 575) (by decide +kernel) rfl, ⟨by decide +kernel, by decide +kernel, by decide +kernel⟩, by decide⟩
theorem ivX1_beatsBy : Cond.instanceMethod yX1_beatsBy ∈ gb_LW := tw_ (i := 574) (by decide +kernel) rfl
theorem slX1_beatsBy : Cond.selects yX1_beatsBy.cls yX1_beatsBy yX1_beatsBy ∈ gb_LW := ts_ (i := 7) (by decide +kernel) rfl
theorem cbX1_areLike : gb_cb mX1_areLike 2 := ⟨iniX1, tw_ (i := 579) (by decide +kernel) rfl, ⟨by decide +kernel, by decide +kernel, by decide +kernel⟩, by decide⟩
theorem ivX1_areLike : Cond.instanceMethod yX1_areLike ∈ gb_LW := tw_ (i := 578) (by decide +kernel) rfl
theorem slX1_areLike : Cond.selects yX1_areLike.cls yX1_areLike yX1_areLike ∈ gb_LW := ts_ (i := 8) (by decide +kernel) rfl
theorem cbX11_picture : gb_cb mX11_picture 3 := ⟨iniX11, tw_ (i := 584) (by decide +kernel) rfl, ⟨by decide +kernel, by decide +kernel, by decide +kernel⟩, by decide⟩
theorem ivX11_picture : Cond.instanceMethod yX11_picture ∈ gb_LW := tw_ (i := 582) (by decide +kernel) rfl
theorem slX11_picture : Cond.selects yX11_picture.cls yX11_picture yX11_picture ∈ gb_LW := tw_ (i := 583) (by decide +kernel) rfl
theorem cbX6_tell : gb_cb mX6_tell 3 := ⟨iniX6, tw_ (i := 588) (by decide +kernel) rfl, ⟨by decide +kernel, by decide +kernel, by decide +kernel⟩, by decide⟩
theorem ivX6_tell : Cond.instanceMethod yX6_tell ∈ gb_LW := tw_ (i := 586) (by decide +kernel) rfl
theorem slX6_tell : Cond.selects yX6_tell.cls yX6_tell yX6_tell ∈ gb_LW := tw_ (i := 587) (by decide +kernel) rfl
theorem cbX11_pictureless : gb_cb mX11_pictureless 0 := ⟨iniX11, tw_ (i := 592) (by decide +kernel) rfl, ⟨by decide +kernel, by decide +kernel, by decide +kernel⟩, by decide⟩
theorem ivX11_pictureless : Cond.instanceMethod yX11_pictureless ∈ gb_LW := tw_ (i := 590) (by decide +kernel) rfl
theorem slX11_pictureless : Cond.selects yX11_pictureless.cls yX11_pictureless yX11_pictureless ∈ gb_LW := tw_ (i := 591) (by decide +kernel) rfl
theorem cbX11_wrong : gb_cb mX11_wrong 0 := ⟨iniX11, tw_ (i := 596) (by decide +kernel) rfl, ⟨by decide +kernel, by decide +kernel, by decide +kernel⟩, by decide⟩
theorem ivX11_wrong : Cond.instanceMethod yX11_wrong ∈ gb_LW := tw_ (i := 594) (by decide +kernel) rfl
theorem slX11_wrong : Cond.selects yX11_wrong.cls yX11_wrong yX11_wrong ∈ gb_LW := tw_ (i := 595) (by decide +kernel) rfl
theorem cbX6_wrongOn : gb_cb mX6_wrongOn 1 := ⟨iniX6, tw_ (i := 600) (by decide +kernel) rfl, ⟨by decide +kernel, by decide +kernel, by decide +kernel⟩, by decide⟩
theorem ivX6_wrongOn : Cond.instanceMethod yX6_wrongOn ∈ gb_LW := tw_ (i := 598) (by decide +kernel) rfl
theorem slX6_wrongOn : Cond.selects yX6_wrongOn.cls yX6_wrongOn yX6_wrongOn ∈ gb_LW := tw_ (i := 599) (by decide +kernel) rfl
theorem cbX11_colours : gb_cb mX11_colours 2 := ⟨iniX11, tw_ (i := 606) (by decide +kernel) rfl, ⟨by decide +kernel, by decide +kernel, by decide +kernel⟩, by decide⟩
theorem ivX11_colours : Cond.instanceMethod yX11_colours ∈ gb_LW := tw_ (i := 604) (by decide +kernel) rfl
theorem slX11_colours : Cond.selects yX11_colours.cls yX11_colours yX11_colours ∈ gb_LW := tw_ (i := 605) (by decide +kernel) rfl
theorem cbX6_choose : gb_cb mX6_choose 2 := ⟨iniX6, tw_ (i := 610) (by decide +kernel) rfl, ⟨by decide +kernel, by decide +kernel, by decide +kernel⟩, by decide⟩
theorem ivX6_choose : Cond.instanceMethod yX6_choose ∈ gb_LW := tw_ (i := 608) (by decide +kernel) rfl
theorem slX6_choose : Cond.selects yX6_choose.cls yX6_choose yX6_choose ∈ gb_LW := tw_ (i := 609) (by decide +kernel) rfl
theorem cbX6_mostAsked : gb_cb mX6_mostAsked 2 := ⟨iniX6, tw_ (i := 616) (by decide +kernel) rfl, ⟨by decide +kernel, by decide +kernel, by decide +kernel⟩, by decide⟩
theorem ivX6_mostAsked : Cond.instanceMethod yX6_mostAsked ∈ gb_LW := tw_ (i := 615) (by decide +kernel) rfl
theorem slX6_mostAsked : Cond.selects yX6_mostAsked.cls yX6_mostAsked yX6_mostAsked ∈ gb_LW := ts_ (i := 9) (by decide +kernel) rfl
theorem cbX11_form : gb_cb mX11_form 2 := ⟨iniX11, tw_ (i := 620) (by decide +kernel) rfl, ⟨by decide +kernel, by decide +kernel, by decide +kernel⟩, by decide⟩
theorem ivX11_form : Cond.instanceMethod yX11_form ∈ gb_LW := tw_ (i := 618) (by decide +kernel) rfl
theorem slX11_form : Cond.selects yX11_form.cls yX11_form yX11_form ∈ gb_LW := tw_ (i := 619) (by decide +kernel) rfl
theorem cbX11_figureOrDance : gb_cb mX11_figureOrDance 1 := ⟨iniX11, tw_ (i := 624) (by decide +kernel) rfl, ⟨by decide +kernel, by decide +kernel, by decide +kernel⟩, by decide⟩
theorem ivX11_figureOrDance : Cond.instanceMethod yX11_figureOrDance ∈ gb_LW := tw_ (i := 623) (by decide +kernel) rfl
theorem slX11_figureOrDance : Cond.selects yX11_figureOrDance.cls yX11_figureOrDance yX11_figureOrDance ∈ gb_LW := ts_ (i := 10) (by decide +kernel) rfl
theorem cbX7_figureAt : gb_cb mX7_figureAt 1 := ⟨iniX7, tw_ (i := 628) (by decide +kernel) rfl, ⟨by decide +kernel, by decide +kernel, by decide +kernel⟩, by decide⟩
theorem ivX7_figureAt : Cond.instanceMethod yX7_figureAt ∈ gb_LW := tw_ (i := 626) (by decide +kernel) rfl
theorem slX7_figureAt : Cond.selects yX7_figureAt.cls yX7_figureAt yX7_figureAt ∈ gb_LW := tw_ (i := 627) (by decide +kernel) rfl
theorem cbX3_cutDown : gb_cb mX3_cutDown 2 := ⟨iniX3, tw_ (i := 632) (by decide +kernel) rfl, ⟨by decide +kernel, by decide +kernel, by decide +kernel⟩, by decide⟩
theorem ivX3_cutDown : Cond.instanceMethod yX3_cutDown ∈ gb_LW := tw_ (i := 630) (by decide +kernel) rfl
theorem slX3_cutDown : Cond.selects yX3_cutDown.cls yX3_cutDown yX3_cutDown ∈ gb_LW := tw_ (i := 631) (by decide +kernel) rfl
theorem cbJ9_floorMod_7cf53 : gb_cb mJ9_floorMod_7cf53 2 := ⟨iniJ9, tw_ (i := 636) (by decide +kernel) rfl, ⟨by decide +kernel, by decide +kernel, by decide +kernel⟩, by decide⟩
theorem svJ9_floorMod_7cf53 : Cond.static yJ9_floorMod_7cf53 ∈ gb_LW := tw_ (i := 635) (by decide +kernel) rfl
theorem cbX3_meet : gb_cb mX3_meet 3 := ⟨iniX3, tw_ (i := 640) (by decide +kernel) rfl, ⟨by decide +kernel, by decide +kernel, by decide +kernel⟩, by decide⟩
theorem ivX3_meet : Cond.instanceMethod yX3_meet ∈ gb_LW := tw_ (i := 639) (by decide +kernel) rfl
theorem slX3_meet : Cond.selects yX3_meet.cls yX3_meet yX3_meet ∈ gb_LW := ts_ (i := 11) (by decide +kernel) rfl
theorem cbX3_linkForward : gb_cb mX3_linkForward 0 := ⟨iniX3, tw_ (i := 646) (by decide +kernel) rfl, ⟨by decide +kernel, by decide +kernel, by decide +kernel⟩, by decide⟩
theorem ivX3_linkForward : Cond.instanceMethod yX3_linkForward ∈ gb_LW := tw_ (i := 645) (by decide +kernel) rfl
theorem slX3_linkForward : Cond.selects yX3_linkForward.cls yX3_linkForward yX3_linkForward ∈ gb_LW := ts_ (i := 12) (by decide +kernel) rfl
theorem cbX3_putInOrder : gb_cb mX3_putInOrder 1 := ⟨iniX3, tw_ (i := 650) (by decide +kernel) rfl, ⟨by decide +kernel, by decide +kernel, by decide +kernel⟩, by decide⟩
theorem ivX3_putInOrder : Cond.instanceMethod yX3_putInOrder ∈ gb_LW := tw_ (i := 649) (by decide +kernel) rfl
theorem slX3_putInOrder : Cond.selects yX3_putInOrder.cls yX3_putInOrder yX3_putInOrder ∈ gb_LW := ts_ (i := 13) (by decide +kernel) rfl
theorem cbX3_leastFree : gb_cb mX3_leastFree 1 := ⟨iniX3, tw_ (i := 654) (by decide +kernel) rfl, ⟨by decide +kernel, by decide +kernel, by decide +kernel⟩, by decide⟩
theorem ivX3_leastFree : Cond.instanceMethod yX3_leastFree ∈ gb_LW := tw_ (i := 653) (by decide +kernel) rfl
theorem slX3_leastFree : Cond.selects yX3_leastFree.cls yX3_leastFree yX3_leastFree ∈ gb_LW := ts_ (i := 14) (by decide +kernel) rfl
theorem cbX11_akin : gb_cb mX11_akin 2 := ⟨iniX11, tw_ (i := 658) (by decide +kernel) rfl, ⟨by decide +kernel, by decide +kernel, by decide +kernel⟩, by decide⟩
theorem ivX11_akin : Cond.instanceMethod yX11_akin ∈ gb_LW := tw_ (i := 656) (by decide +kernel) rfl
theorem slX11_akin : Cond.selects yX11_akin.cls yX11_akin yX11_akin ∈ gb_LW := tw_ (i := 657) (by decide +kernel) rfl
theorem cbX3_isLike : gb_cb mX3_isLike 1 := ⟨iniX3, tw_ (i := 662) (by decide +kernel) rfl, ⟨by decide +kernel, by decide +kernel, by decide +kernel⟩, by decide⟩
theorem ivX3_isLike : Cond.instanceMethod yX3_isLike ∈ gb_LW := tw_ (i := 660) (by decide +kernel) rfl
theorem slX3_isLike : Cond.selects yX3_isLike.cls yX3_isLike yX3_isLike ∈ gb_LW := tw_ (i := 661) (by decide +kernel) rfl
theorem cbX11_feed : gb_cb mX11_feed 2 := ⟨iniX11, tw_ (i := 666) (by decide +kernel) rfl, ⟨by decide +kernel, by decide +kernel, by decide +kernel⟩, by decide⟩
theorem ivX11_feed : Cond.instanceMethod yX11_feed ∈ gb_LW := tw_ (i := 664) (by decide +kernel) rfl
theorem slX11_feed : Cond.selects yX11_feed.cls yX11_feed yX11_feed ∈ gb_LW := tw_ (i := 665) (by decide +kernel) rfl
theorem cbX7_take : gb_cb mX7_take 2 := ⟨iniX7, tw_ (i := 670) (by decide +kernel) rfl, ⟨by decide +kernel, by decide +kernel, by decide +kernel⟩, by decide⟩
theorem ivX7_take : Cond.instanceMethod yX7_take ∈ gb_LW := tw_ (i := 668) (by decide +kernel) rfl
theorem slX7_take : Cond.selects yX7_take.cls yX7_take yX7_take ∈ gb_LW := tw_ (i := 669) (by decide +kernel) rfl
theorem cbX11_figure : gb_cb mX11_figure 0 := ⟨iniX11, tw_ (i := 674) (by decide +kernel) rfl, ⟨by decide +kernel, by decide +kernel, by decide +kernel⟩, by decide⟩
theorem ivX11_figure : Cond.instanceMethod yX11_figure ∈ gb_LW := tw_ (i := 672) (by decide +kernel) rfl
theorem slX11_figure : Cond.selects yX11_figure.cls yX11_figure yX11_figure ∈ gb_LW := tw_ (i := 673) (by decide +kernel) rfl
theorem cbX7_parse : gb_cb mX7_parse 0 := ⟨iniX7, tw_ (i := 678) (by decide +kernel) rfl, ⟨by decide +kernel, by decide +kernel, by decide +kernel⟩, by decide⟩
theorem ivX7_parse : Cond.instanceMethod yX7_parse ∈ gb_LW := tw_ (i := 676) (by decide +kernel) rfl
theorem slX7_parse : Cond.selects yX7_parse.cls yX7_parse yX7_parse ∈ gb_LW := tw_ (i := 677) (by decide +kernel) rfl
theorem cbX7_open : gb_cb mX7_open 0 := ⟨iniX7, tw_ (i := 683) (by decide +kernel) rfl, ⟨by decide +kernel, by decide +kernel, by decide +kernel⟩, by decide⟩
theorem ivX7_open : Cond.instanceMethod yX7_open ∈ gb_LW := tw_ (i := 682) (by decide +kernel) rfl
theorem slX7_open : Cond.selects yX7_open.cls yX7_open yX7_open ∈ gb_LW := ts_ (i := 15) (by decide +kernel) rfl
theorem cbX7_close : gb_cb mX7_close 2 := ⟨iniX7, tw_ (i := 687) (by decide +kernel) rfl, ⟨by decide +kernel, by decide +kernel, by decide +kernel⟩, by decide⟩
theorem ivX7_close : Cond.instanceMethod yX7_close ∈ gb_LW := tw_ (i := 686) (by decide +kernel) rfl
theorem slX7_close : Cond.selects yX7_close.cls yX7_close yX7_close ∈ gb_LW := ts_ (i := 16) (by decide +kernel) rfl
theorem cbX7_signAt : gb_cb mX7_signAt 1 := ⟨iniX7, tw_ (i := 691) (by decide +kernel) rfl, ⟨by decide +kernel, by decide +kernel, by decide +kernel⟩, by decide⟩
theorem ivX7_signAt : Cond.instanceMethod yX7_signAt ∈ gb_LW := tw_ (i := 690) (by decide +kernel) rfl
theorem slX7_signAt : Cond.selects yX7_signAt.cls yX7_signAt yX7_signAt ∈ gb_LW := ts_ (i := 17) (by decide +kernel) rfl
theorem cbX7_undoFrom : gb_cb mX7_undoFrom 1 := ⟨iniX7, tw_ (i := 695) (by decide +kernel) rfl, ⟨by decide +kernel, by decide +kernel, by decide +kernel⟩, by decide⟩
theorem ivX7_undoFrom : Cond.instanceMethod yX7_undoFrom ∈ gb_LW := tw_ (i := 694) (by decide +kernel) rfl
theorem slX7_undoFrom : Cond.selects yX7_undoFrom.cls yX7_undoFrom yX7_undoFrom ∈ gb_LW := ts_ (i := 18) (by decide +kernel) rfl
theorem cbX7_repeatFrom : gb_cb mX7_repeatFrom 2 := ⟨iniX7, tw_ (i := 699) (by decide +kernel) rfl, ⟨by decide +kernel, by decide +kernel, by decide +kernel⟩, by decide⟩
theorem ivX7_repeatFrom : Cond.instanceMethod yX7_repeatFrom ∈ gb_LW := tw_ (i := 698) (by decide +kernel) rfl
theorem slX7_repeatFrom : Cond.selects yX7_repeatFrom.cls yX7_repeatFrom yX7_repeatFrom ∈ gb_LW := ts_ (i := 19) (by decide +kernel) rfl
theorem cbX7_put : gb_cb mX7_put 1 := ⟨iniX7, tw_ (i := 703) (by decide +kernel) rfl, ⟨by decide +kernel, by decide +kernel, by decide +kernel⟩, by decide⟩
theorem ivX7_put : Cond.instanceMethod yX7_put ∈ gb_LW := tw_ (i := 702) (by decide +kernel) rfl
theorem slX7_put : Cond.selects yX7_put.cls yX7_put yX7_put ∈ gb_LW := ts_ (i := 20) (by decide +kernel) rfl
theorem cbX7_single : gb_cb mX7_single 1 := ⟨iniX7, tw_ (i := 708) (by decide +kernel) rfl, ⟨by decide +kernel, by decide +kernel, by decide +kernel⟩, by decide⟩
theorem ivX7_single : Cond.instanceMethod yX7_single ∈ gb_LW := tw_ (i := 707) (by decide +kernel) rfl
theorem slX7_single : Cond.selects yX7_single.cls yX7_single yX7_single ∈ gb_LW := ts_ (i := 21) (by decide +kernel) rfl
theorem cbX7_putAll : gb_cb mX7_putAll 1 := ⟨iniX7, tw_ (i := 713) (by decide +kernel) rfl, ⟨by decide +kernel, by decide +kernel, by decide +kernel⟩, by decide⟩
theorem ivX7_putAll : Cond.instanceMethod yX7_putAll ∈ gb_LW := tw_ (i := 712) (by decide +kernel) rfl
theorem slX7_putAll : Cond.selects yX7_putAll.cls yX7_putAll yX7_putAll ∈ gb_LW := ts_ (i := 22) (by decide +kernel) rfl
theorem cbX7_keep : gb_cb mX7_keep 0 := ⟨iniX7, tw_ (i := 717) (by decide +kernel) rfl, ⟨by decide +kernel, by decide +kernel, by decide +kernel⟩, by decide⟩
theorem ivX7_keep : Cond.instanceMethod yX7_keep ∈ gb_LW := tw_ (i := 715) (by decide +kernel) rfl
theorem slX7_keep : Cond.selects yX7_keep.cls yX7_keep yX7_keep ∈ gb_LW := tw_ (i := 716) (by decide +kernel) rfl
theorem cbX9_copied : gb_cb mX9_copied 0 := ⟨iniX9, tw_ (i := 721) (by decide +kernel) rfl, ⟨by decide +kernel, by decide +kernel, by decide +kernel⟩, by decide⟩
theorem ivX9_copied : Cond.instanceMethod yX9_copied ∈ gb_LW := tw_ (i := 719) (by decide +kernel) rfl
theorem slX9_copied : Cond.selects yX9_copied.cls yX9_copied yX9_copied ∈ gb_LW := tw_ (i := 720) (by decide +kernel) rfl
theorem cbX11_told : gb_cb mX11_told 2 := ⟨iniX11, tw_ (i := 728) (by decide +kernel) rfl, ⟨by decide +kernel, by decide +kernel, by decide +kernel⟩, by decide⟩
theorem ivX11_told : Cond.instanceMethod yX11_told ∈ gb_LW := tw_ (i := 726) (by decide +kernel) rfl
theorem slX11_told : Cond.selects yX11_told.cls yX11_told yX11_told ∈ gb_LW := tw_ (i := 727) (by decide +kernel) rfl
theorem cbX11_dance : gb_cb mX11_dance 1 := ⟨iniX11, tw_ (i := 732) (by decide +kernel) rfl, ⟨by decide +kernel, by decide +kernel, by decide +kernel⟩, by decide⟩
theorem ivX11_dance : Cond.instanceMethod yX11_dance ∈ gb_LW := tw_ (i := 730) (by decide +kernel) rfl
theorem slX11_dance : Cond.selects yX11_dance.cls yX11_dance yX11_dance ∈ gb_LW := tw_ (i := 731) (by decide +kernel) rfl
theorem cbX11_right : gb_cb mX11_right 1 := ⟨iniX11, tw_ (i := 736) (by decide +kernel) rfl, ⟨by decide +kernel, by decide +kernel, by decide +kernel⟩, by decide⟩
theorem ivX11_right : Cond.instanceMethod yX11_right ∈ gb_LW := tw_ (i := 734) (by decide +kernel) rfl
theorem slX11_right : Cond.selects yX11_right.cls yX11_right yX11_right ∈ gb_LW := tw_ (i := 735) (by decide +kernel) rfl
theorem cbX11_weavesOn : gb_cb mX11_weavesOn 3 := ⟨iniX11, tw_ (i := 740) (by decide +kernel) rfl, ⟨by decide +kernel, by decide +kernel, by decide +kernel⟩, by decide⟩
theorem ivX11_weavesOn : Cond.instanceMethod yX11_weavesOn ∈ gb_LW := tw_ (i := 739) (by decide +kernel) rfl
theorem slX11_weavesOn : Cond.selects yX11_weavesOn.cls yX11_weavesOn yX11_weavesOn ∈ gb_LW := ts_ (i := 23) (by decide +kernel) rfl
theorem cbX11_weaves : gb_cb mX11_weaves 2 := ⟨iniX11, tw_ (i := 744) (by decide +kernel) rfl, ⟨by decide +kernel, by decide +kernel, by decide +kernel⟩, by decide⟩
theorem ivX11_weaves : Cond.instanceMethod yX11_weaves ∈ gb_LW := tw_ (i := 743) (by decide +kernel) rfl
theorem slX11_weaves : Cond.selects yX11_weaves.cls yX11_weaves yX11_weaves ∈ gb_LW := ts_ (i := 24) (by decide +kernel) rfl
theorem cbX1_isRowOf : gb_cb mX1_isRowOf 1 := ⟨iniX1, tw_ (i := 748) (by decide +kernel) rfl, ⟨by decide +kernel, by decide +kernel, by decide +kernel⟩, by decide⟩
theorem ivX1_isRowOf : Cond.instanceMethod yX1_isRowOf ∈ gb_LW := tw_ (i := 746) (by decide +kernel) rfl
theorem slX1_isRowOf : Cond.selects yX1_isRowOf.cls yX1_isRowOf yX1_isRowOf ∈ gb_LW := tw_ (i := 747) (by decide +kernel) rfl
theorem cbX11_slips : gb_cb mX11_slips 2 := ⟨iniX11, tw_ (i := 752) (by decide +kernel) rfl, ⟨by decide +kernel, by decide +kernel, by decide +kernel⟩, by decide⟩
theorem ivX11_slips : Cond.instanceMethod yX11_slips ∈ gb_LW := tw_ (i := 750) (by decide +kernel) rfl
theorem slX11_slips : Cond.selects yX11_slips.cls yX11_slips yX11_slips ∈ gb_LW := tw_ (i := 751) (by decide +kernel) rfl
theorem cbX11_explained : gb_cb mX11_explained 2 := ⟨iniX11, tw_ (i := 756) (by decide +kernel) rfl, ⟨by decide +kernel, by decide +kernel, by decide +kernel⟩, by decide⟩
theorem ivX11_explained : Cond.instanceMethod yX11_explained ∈ gb_LW := tw_ (i := 755) (by decide +kernel) rfl
theorem slX11_explained : Cond.selects yX11_explained.cls yX11_explained yX11_explained ∈ gb_LW := ts_ (i := 25) (by decide +kernel) rfl
theorem cbX9_walksIn : gb_cb mX9_walksIn 0 := ⟨iniX9, tw_ (i := 760) (by decide +kernel) rfl, ⟨by decide +kernel, by decide +kernel, by decide +kernel⟩, by decide⟩
theorem ivX9_walksIn : Cond.instanceMethod yX9_walksIn ∈ gb_LW := tw_ (i := 758) (by decide +kernel) rfl
theorem slX9_walksIn : Cond.selects yX9_walksIn.cls yX9_walksIn yX9_walksIn ∈ gb_LW := tw_ (i := 759) (by decide +kernel) rfl
theorem cbX11_weavesSlipped : gb_cb mX11_weavesSlipped 3 := ⟨iniX11, tw_ (i := 764) (by decide +kernel) rfl, ⟨by decide +kernel, by decide +kernel, by decide +kernel⟩, by decide⟩
theorem ivX11_weavesSlipped : Cond.instanceMethod yX11_weavesSlipped ∈ gb_LW := tw_ (i := 763) (by decide +kernel) rfl
theorem slX11_weavesSlipped : Cond.selects yX11_weavesSlipped.cls yX11_weavesSlipped yX11_weavesSlipped ∈ gb_LW := ts_ (i := 26) (by decide +kernel) rfl
theorem cbX11_fewest : gb_cb mX11_fewest 2 := ⟨iniX11, tw_ (i := 768) (by decide +kernel) rfl, ⟨by decide +kernel, by decide +kernel, by decide +kernel⟩, by decide⟩
theorem ivX11_fewest : Cond.instanceMethod yX11_fewest ∈ gb_LW := tw_ (i := 766) (by decide +kernel) rfl
theorem slX11_fewest : Cond.selects yX11_fewest.cls yX11_fewest yX11_fewest ∈ gb_LW := tw_ (i := 767) (by decide +kernel) rfl
theorem cbX11_tapeAt : gb_cb mX11_tapeAt 1 := ⟨iniX11, tw_ (i := 772) (by decide +kernel) rfl, ⟨by decide +kernel, by decide +kernel, by decide +kernel⟩, by decide⟩
theorem ivX11_tapeAt : Cond.instanceMethod yX11_tapeAt ∈ gb_LW := tw_ (i := 771) (by decide +kernel) rfl
theorem slX11_tapeAt : Cond.selects yX11_tapeAt.cls yX11_tapeAt yX11_tapeAt ∈ gb_LW := ts_ (i := 27) (by decide +kernel) rfl
theorem cbX4_ask : gb_cb mX4_ask 2 := ⟨iniX4, tw_ (i := 776) (by decide +kernel) rfl, ⟨by decide +kernel, by decide +kernel, by decide +kernel⟩, by decide⟩
theorem ivX4_ask : Cond.instanceMethod yX4_ask ∈ gb_LW := tw_ (i := 774) (by decide +kernel) rfl
theorem slX4_ask : Cond.selects yX4_ask.cls yX4_ask yX4_ask ∈ gb_LW := tw_ (i := 775) (by decide +kernel) rfl
theorem cbX4_search : gb_cb mX4_search 1 := ⟨iniX4, tw_ (i := 781) (by decide +kernel) rfl, ⟨by decide +kernel, by decide +kernel, by decide +kernel⟩, by decide⟩
theorem ivX4_search : Cond.instanceMethod yX4_search ∈ gb_LW := tw_ (i := 779) (by decide +kernel) rfl
theorem slX4_search : Cond.selects yX4_search.cls yX4_search yX4_search ∈ gb_LW := tw_ (i := 780) (by decide +kernel) rfl
theorem cbX4_passesLeft : gb_cb mX4_passesLeft 1 := ⟨iniX4, tw_ (i := 785) (by decide +kernel) rfl, ⟨by decide +kernel, by decide +kernel, by decide +kernel⟩, by decide⟩
theorem ivX4_passesLeft : Cond.instanceMethod yX4_passesLeft ∈ gb_LW := tw_ (i := 784) (by decide +kernel) rfl
theorem slX4_passesLeft : Cond.selects yX4_passesLeft.cls yX4_passesLeft yX4_passesLeft ∈ gb_LW := ts_ (i := 28) (by decide +kernel) rfl
theorem cbX4_settleWays : gb_cb mX4_settleWays 1 := ⟨iniX4, tw_ (i := 789) (by decide +kernel) rfl, ⟨by decide +kernel, by decide +kernel, by decide +kernel⟩, by decide⟩
theorem ivX4_settleWays : Cond.instanceMethod yX4_settleWays ∈ gb_LW := tw_ (i := 788) (by decide +kernel) rfl
theorem slX4_settleWays : Cond.selects yX4_settleWays.cls yX4_settleWays yX4_settleWays ∈ gb_LW := ts_ (i := 29) (by decide +kernel) rfl
theorem cbJ9_floorDiv_7cf53 : gb_cb mJ9_floorDiv_7cf53 2 := ⟨iniJ9, tw_ (i := 792) (by decide +kernel) rfl, ⟨by decide +kernel, by decide +kernel, by decide +kernel⟩, by decide⟩
theorem svJ9_floorDiv_7cf53 : Cond.static yJ9_floorDiv_7cf53 ∈ gb_LW := tw_ (i := 791) (by decide +kernel) rfl
theorem cbJ9_abs_0f7a4 : gb_cb mJ9_abs_0f7a4 1 := ⟨iniJ9, tw_ (i := 795) (by decide +kernel) rfl, ⟨by decide +kernel, by decide +kernel, by decide +kernel⟩, by decide⟩
theorem svJ9_abs_0f7a4 : Cond.static yJ9_abs_0f7a4 ∈ gb_LW := tw_ (i := 794) (by decide +kernel) rfl
theorem cbX4_nearer : gb_cb mX4_nearer 2 := ⟨iniX4, tw_ (i := 799) (by decide +kernel) rfl, ⟨by decide +kernel, by decide +kernel, by decide +kernel⟩, by decide⟩
theorem ivX4_nearer : Cond.instanceMethod yX4_nearer ∈ gb_LW := tw_ (i := 798) (by decide +kernel) rfl
theorem slX4_nearer : Cond.selects yX4_nearer.cls yX4_nearer yX4_nearer ∈ gb_LW := ts_ (i := 30) (by decide +kernel) rfl
theorem cbX4_swap : gb_cb mX4_swap 2 := ⟨iniX4, tw_ (i := 803) (by decide +kernel) rfl, ⟨by decide +kernel, by decide +kernel, by decide +kernel⟩, by decide⟩
theorem ivX4_swap : Cond.instanceMethod yX4_swap ∈ gb_LW := tw_ (i := 802) (by decide +kernel) rfl
theorem slX4_swap : Cond.selects yX4_swap.cls yX4_swap yX4_swap ∈ gb_LW := ts_ (i := 31) (by decide +kernel) rfl
theorem cbX11_set : gb_cb mX11_set 2 := ⟨iniX11, tw_ (i := 808) (by decide +kernel) rfl, ⟨by decide +kernel, by decide +kernel, by decide +kernel⟩, by decide⟩
theorem ivX11_set : Cond.instanceMethod yX11_set ∈ gb_LW := tw_ (i := 806) (by decide +kernel) rfl
theorem slX11_set : Cond.selects yX11_set.cls yX11_set yX11_set ∈ gb_LW := tw_ (i := 807) (by decide +kernel) rfl
theorem cbX11_seatPeople : gb_cb mX11_seatPeople 1 := ⟨iniX11, tw_ (i := 812) (by decide +kernel) rfl, ⟨by decide +kernel, by decide +kernel, by decide +kernel⟩, by decide⟩
theorem ivX11_seatPeople : Cond.instanceMethod yX11_seatPeople ∈ gb_LW := tw_ (i := 811) (by decide +kernel) rfl
theorem slX11_seatPeople : Cond.selects yX11_seatPeople.cls yX11_seatPeople yX11_seatPeople ∈ gb_LW := ts_ (i := 32) (by decide +kernel) rfl
theorem cbJ6_bitCount_0f7a4 : gb_cb mJ6_bitCount_0f7a4 1 := ⟨iniJ6, tw_ (i := 815) (by decide +kernel) rfl, ⟨by decide +kernel, by decide +kernel, by decide +kernel⟩, by decide⟩
theorem svJ6_bitCount_0f7a4 : Cond.static yJ6_bitCount_0f7a4 ∈ gb_LW := tw_ (i := 814) (by decide +kernel) rfl
theorem cbX8_clear : gb_cb mX8_clear 0 := ⟨iniX8, tw_ (i := 822) (by decide +kernel) rfl, ⟨by decide +kernel, by decide +kernel, by decide +kernel⟩, by decide⟩
theorem ivX8_clear : Cond.instanceMethod yX8_clear ∈ gb_LW := tw_ (i := 820) (by decide +kernel) rfl
theorem slX8_clear : Cond.selects yX8_clear.cls yX8_clear yX8_clear ∈ gb_LW := tw_ (i := 821) (by decide +kernel) rfl
theorem cbX8_add : gb_cb mX8_add 1 := ⟨iniX8, tw_ (i := 826) (by decide +kernel) rfl, ⟨by decide +kernel, by decide +kernel, by decide +kernel⟩, by decide⟩
theorem ivX8_add : Cond.instanceMethod yX8_add ∈ gb_LW := tw_ (i := 824) (by decide +kernel) rfl
theorem slX8_add : Cond.selects yX8_add.cls yX8_add yX8_add ∈ gb_LW := tw_ (i := 825) (by decide +kernel) rfl
theorem cbX8_seatAll : gb_cb mX8_seatAll 0 := ⟨iniX8, tw_ (i := 830) (by decide +kernel) rfl, ⟨by decide +kernel, by decide +kernel, by decide +kernel⟩, by decide⟩
theorem ivX8_seatAll : Cond.instanceMethod yX8_seatAll ∈ gb_LW := tw_ (i := 828) (by decide +kernel) rfl
theorem slX8_seatAll : Cond.selects yX8_seatAll.cls yX8_seatAll yX8_seatAll ∈ gb_LW := tw_ (i := 829) (by decide +kernel) rfl
theorem cbX8_seatFrom : gb_cb mX8_seatFrom 3 := ⟨iniX8, tw_ (i := 835) (by decide +kernel) rfl, ⟨by decide +kernel, by decide +kernel, by decide +kernel⟩, by decide⟩
theorem ivX8_seatFrom : Cond.instanceMethod yX8_seatFrom ∈ gb_LW := tw_ (i := 834) (by decide +kernel) rfl
theorem slX8_seatFrom : Cond.selects yX8_seatFrom.cls yX8_seatFrom yX8_seatFrom ∈ gb_LW := ts_ (i := 33) (by decide +kernel) rfl
theorem cbX8_apart : gb_cb mX8_apart 2 := ⟨iniX8, tw_ (i := 839) (by decide +kernel) rfl, ⟨by decide +kernel, by decide +kernel, by decide +kernel⟩, by decide⟩
theorem ivX8_apart : Cond.instanceMethod yX8_apart ∈ gb_LW := tw_ (i := 838) (by decide +kernel) rfl
theorem slX8_apart : Cond.selects yX8_apart.cls yX8_apart yX8_apart ∈ gb_LW := ts_ (i := 34) (by decide +kernel) rfl
theorem cbX8_numberAt : gb_cb mX8_numberAt 1 := ⟨iniX8, tw_ (i := 845) (by decide +kernel) rfl, ⟨by decide +kernel, by decide +kernel, by decide +kernel⟩, by decide⟩
theorem ivX8_numberAt : Cond.instanceMethod yX8_numberAt ∈ gb_LW := tw_ (i := 843) (by decide +kernel) rfl
theorem slX8_numberAt : Cond.selects yX8_numberAt.cls yX8_numberAt yX8_numberAt ∈ gb_LW := tw_ (i := 844) (by decide +kernel) rfl
theorem cbX11_spent : gb_cb mX11_spent 2 := ⟨iniX11, tw_ (i := 849) (by decide +kernel) rfl, ⟨by decide +kernel, by decide +kernel, by decide +kernel⟩, by decide⟩
theorem ivX11_spent : Cond.instanceMethod yX11_spent ∈ gb_LW := tw_ (i := 847) (by decide +kernel) rfl
theorem slX11_spent : Cond.selects yX11_spent.cls yX11_spent yX11_spent ∈ gb_LW := tw_ (i := 848) (by decide +kernel) rfl
theorem cbX8_spentIn : gb_cb mX8_spentIn 1 := ⟨iniX8, tw_ (i := 853) (by decide +kernel) rfl, ⟨by decide +kernel, by decide +kernel, by decide +kernel⟩, by decide⟩
theorem ivX8_spentIn : Cond.instanceMethod yX8_spentIn ∈ gb_LW := tw_ (i := 851) (by decide +kernel) rfl
theorem slX8_spentIn : Cond.selects yX8_spentIn.cls yX8_spentIn yX8_spentIn ∈ gb_LW := tw_ (i := 852) (by decide +kernel) rfl
theorem cbX8_greatestPace : gb_cb mX8_greatestPace 0 := ⟨iniX8, tw_ (i := 857) (by decide +kernel) rfl, ⟨by decide +kernel, by decide +kernel, by decide +kernel⟩, by decide⟩
theorem ivX8_greatestPace : Cond.instanceMethod yX8_greatestPace ∈ gb_LW := tw_ (i := 856) (by decide +kernel) rfl
theorem slX8_greatestPace : Cond.selects yX8_greatestPace.cls yX8_greatestPace yX8_greatestPace ∈ gb_LW := ts_ (i := 35) (by decide +kernel) rfl
theorem cbJ9_max_7cf53 : gb_cb mJ9_max_7cf53 2 := ⟨iniJ9, tw_ (i := 860) (by decide +kernel) rfl, ⟨by decide +kernel, by decide +kernel, by decide +kernel⟩, by decide⟩
theorem svJ9_max_7cf53 : Cond.static yJ9_max_7cf53 ∈ gb_LW := tw_ (i := 859) (by decide +kernel) rfl
theorem cbX8_turn : gb_cb mX8_turn 1 := ⟨iniX8, tw_ (i := 864) (by decide +kernel) rfl, ⟨by decide +kernel, by decide +kernel, by decide +kernel⟩, by decide⟩
theorem ivX8_turn : Cond.instanceMethod yX8_turn ∈ gb_LW := tw_ (i := 863) (by decide +kernel) rfl
theorem slX8_turn : Cond.selects yX8_turn.cls yX8_turn yX8_turn ∈ gb_LW := ts_ (i := 36) (by decide +kernel) rfl
theorem cbX8_change : gb_cb mX8_change 1 := ⟨iniX8, tw_ (i := 868) (by decide +kernel) rfl, ⟨by decide +kernel, by decide +kernel, by decide +kernel⟩, by decide⟩
theorem ivX8_change : Cond.instanceMethod yX8_change ∈ gb_LW := tw_ (i := 867) (by decide +kernel) rfl
theorem slX8_change : Cond.selects yX8_change.cls yX8_change yX8_change ∈ gb_LW := ts_ (i := 37) (by decide +kernel) rfl
theorem cbX11_act : gb_cb mX11_act 3 := ⟨iniX11, tw_ (i := 873) (by decide +kernel) rfl, ⟨by decide +kernel, by decide +kernel, by decide +kernel⟩, by decide⟩
theorem ivX11_act : Cond.instanceMethod yX11_act ∈ gb_LW := tw_ (i := 871) (by decide +kernel) rfl
theorem slX11_act : Cond.selects yX11_act.cls yX11_act yX11_act ∈ gb_LW := tw_ (i := 872) (by decide +kernel) rfl
theorem cbX0_perform : gb_cb mX0_perform 3 := ⟨iniX0, tw_ (i := 877) (by decide +kernel) rfl, ⟨by decide +kernel, by decide +kernel, by decide +kernel⟩, by decide⟩
theorem ivX0_perform : Cond.instanceMethod yX0_perform ∈ gb_LW := tw_ (i := 875) (by decide +kernel) rfl
theorem slX0_perform : Cond.selects yX0_perform.cls yX0_perform yX0_perform ∈ gb_LW := tw_ (i := 876) (by decide +kernel) rfl
theorem cbX0_ask : gb_cb mX0_ask 5 := ⟨iniX0, tw_ (i := 881) (by decide +kernel) rfl, ⟨by decide +kernel, by decide +kernel, by decide +kernel⟩, by decide⟩
theorem ivX0_ask : Cond.instanceMethod yX0_ask ∈ gb_LW := tw_ (i := 880) (by decide +kernel) rfl
theorem slX0_ask : Cond.selects yX0_ask.cls yX0_ask yX0_ask ∈ gb_LW := ts_ (i := 38) (by decide +kernel) rfl
theorem cbX0_note : gb_cb mX0_note 1 := ⟨iniX0, tw_ (i := 889) (by decide +kernel) rfl, ⟨by decide +kernel, by decide +kernel, by decide +kernel⟩, by decide⟩
theorem ivX0_note : Cond.instanceMethod yX0_note ∈ gb_LW := tw_ (i := 888) (by decide +kernel) rfl
theorem slX0_note : Cond.selects yX0_note.cls yX0_note yX0_note ∈ gb_LW := ts_ (i := 39) (by decide +kernel) rfl
theorem cbX0_run : gb_cb mX0_run 5 := ⟨iniX0, tw_ (i := 893) (by decide +kernel) rfl, ⟨by decide +kernel, by decide +kernel, by decide +kernel⟩, by decide⟩
theorem ivX0_run : Cond.instanceMethod yX0_run ∈ gb_LW := tw_ (i := 892) (by decide +kernel) rfl
theorem slX0_run : Cond.selects yX0_run.cls yX0_run yX0_run ∈ gb_LW := ts_ (i := 40) (by decide +kernel) rfl
theorem cbX11_trace : gb_cb mX11_trace 1 := ⟨iniX11, tw_ (i := 897) (by decide +kernel) rfl, ⟨by decide +kernel, by decide +kernel, by decide +kernel⟩, by decide⟩
theorem ivX11_trace : Cond.instanceMethod yX11_trace ∈ gb_LW := tw_ (i := 895) (by decide +kernel) rfl
theorem slX11_trace : Cond.selects yX11_trace.cls yX11_trace yX11_trace ∈ gb_LW := tw_ (i := 896) (by decide +kernel) rfl
theorem cbX0_traced : gb_cb mX0_traced 1 := ⟨iniX0, tw_ (i := 901) (by decide +kernel) rfl, ⟨by decide +kernel, by decide +kernel, by decide +kernel⟩, by decide⟩
theorem ivX0_traced : Cond.instanceMethod yX0_traced ∈ gb_LW := tw_ (i := 899) (by decide +kernel) rfl
theorem slX0_traced : Cond.selects yX0_traced.cls yX0_traced yX0_traced ∈ gb_LW := tw_ (i := 900) (by decide +kernel) rfl
theorem cbX11_taken : gb_cb mX11_taken 2 := ⟨iniX11, tw_ (i := 905) (by decide +kernel) rfl, ⟨by decide +kernel, by decide +kernel, by decide +kernel⟩, by decide⟩
theorem ivX11_taken : Cond.instanceMethod yX11_taken ∈ gb_LW := tw_ (i := 903) (by decide +kernel) rfl
theorem slX11_taken : Cond.selects yX11_taken.cls yX11_taken yX11_taken ∈ gb_LW := tw_ (i := 904) (by decide +kernel) rfl
theorem cbX5_isOf : gb_cb mX5_isOf 1 := ⟨iniX5, tw_ (i := 909) (by decide +kernel) rfl, ⟨by decide +kernel, by decide +kernel, by decide +kernel⟩, by decide⟩
theorem ivX5_isOf : Cond.instanceMethod yX5_isOf ∈ gb_LW := tw_ (i := 907) (by decide +kernel) rfl
theorem slX5_isOf : Cond.selects yX5_isOf.cls yX5_isOf yX5_isOf ∈ gb_LW := tw_ (i := 908) (by decide +kernel) rfl
theorem cbX11_count : gb_cb mX11_count 1 := ⟨iniX11, tw_ (i := 914) (by decide +kernel) rfl, ⟨by decide +kernel, by decide +kernel, by decide +kernel⟩, by decide⟩
theorem ivX11_count : Cond.instanceMethod yX11_count ∈ gb_LW := tw_ (i := 912) (by decide +kernel) rfl
theorem slX11_count : Cond.selects yX11_count.cls yX11_count yX11_count ∈ gb_LW := tw_ (i := 913) (by decide +kernel) rfl
theorem cbX11_tape : gb_cb mX11_tape 3 := ⟨iniX11, tw_ (i := 918) (by decide +kernel) rfl, ⟨by decide +kernel, by decide +kernel, by decide +kernel⟩, by decide⟩
theorem ivX11_tape : Cond.instanceMethod yX11_tape ∈ gb_LW := tw_ (i := 916) (by decide +kernel) rfl
theorem slX11_tape : Cond.selects yX11_tape.cls yX11_tape yX11_tape ∈ gb_LW := tw_ (i := 917) (by decide +kernel) rfl
theorem cbX10_empty : gb_cb mX10_empty 0 := ⟨iniX10, tw_ (i := 922) (by decide +kernel) rfl, ⟨by decide +kernel, by decide +kernel, by decide +kernel⟩, by decide⟩
theorem ivX10_empty : Cond.instanceMethod yX10_empty ∈ gb_LW := tw_ (i := 920) (by decide +kernel) rfl
theorem slX10_empty : Cond.selects yX10_empty.cls yX10_empty yX10_empty ∈ gb_LW := tw_ (i := 921) (by decide +kernel) rfl
theorem cbX10_become : gb_cb mX10_become 2 := ⟨iniX10, tw_ (i := 926) (by decide +kernel) rfl, ⟨by decide +kernel, by decide +kernel, by decide +kernel⟩, by decide⟩
theorem ivX10_become : Cond.instanceMethod yX10_become ∈ gb_LW := tw_ (i := 924) (by decide +kernel) rfl
theorem slX10_become : Cond.selects yX10_become.cls yX10_become yX10_become ∈ gb_LW := tw_ (i := 925) (by decide +kernel) rfl
theorem cbX11_item : gb_cb mX11_item 3 := ⟨iniX11, tw_ (i := 931) (by decide +kernel) rfl, ⟨by decide +kernel, by decide +kernel, by decide +kernel⟩, by decide⟩
theorem ivX11_item : Cond.instanceMethod yX11_item ∈ gb_LW := tw_ (i := 929) (by decide +kernel) rfl
theorem slX11_item : Cond.selects yX11_item.cls yX11_item yX11_item ∈ gb_LW := tw_ (i := 930) (by decide +kernel) rfl
theorem cbX10_cut : gb_cb mX10_cut 1 := ⟨iniX10, tw_ (i := 935) (by decide +kernel) rfl, ⟨by decide +kernel, by decide +kernel, by decide +kernel⟩, by decide⟩
theorem ivX10_cut : Cond.instanceMethod yX10_cut ∈ gb_LW := tw_ (i := 933) (by decide +kernel) rfl
theorem slX10_cut : Cond.selects yX10_cut.cls yX10_cut yX10_cut ∈ gb_LW := tw_ (i := 934) (by decide +kernel) rfl
theorem cbX11_read : gb_cb mX11_read 2 := ⟨iniX11, tw_ (i := 939) (by decide +kernel) rfl, ⟨by decide +kernel, by decide +kernel, by decide +kernel⟩, by decide⟩
theorem ivX11_read : Cond.instanceMethod yX11_read ∈ gb_LW := tw_ (i := 937) (by decide +kernel) rfl
theorem slX11_read : Cond.selects yX11_read.cls yX11_read yX11_read ∈ gb_LW := tw_ (i := 938) (by decide +kernel) rfl
theorem cbX11_shift : gb_cb mX11_shift 5 := ⟨iniX11, tw_ (i := 944) (by decide +kernel) rfl, ⟨by decide +kernel, by decide +kernel, by decide +kernel⟩, by decide⟩
theorem ivX11_shift : Cond.instanceMethod yX11_shift ∈ gb_LW := tw_ (i := 942) (by decide +kernel) rfl
theorem slX11_shift : Cond.selects yX11_shift.cls yX11_shift yX11_shift ∈ gb_LW := tw_ (i := 943) (by decide +kernel) rfl
theorem cbX10_holds : gb_cb mX10_holds 2 := ⟨iniX10, tw_ (i := 948) (by decide +kernel) rfl, ⟨by decide +kernel, by decide +kernel, by decide +kernel⟩, by decide⟩
theorem ivX10_holds : Cond.instanceMethod yX10_holds ∈ gb_LW := tw_ (i := 946) (by decide +kernel) rfl
theorem slX10_holds : Cond.selects yX10_holds.cls yX10_holds yX10_holds ∈ gb_LW := tw_ (i := 947) (by decide +kernel) rfl
theorem cbX12_init : gb_cb mX12_init 0 := ⟨iniX12, tw_ (i := 954) (by decide +kernel) rfl, ⟨by decide +kernel, by decide +kernel, by decide +kernel⟩, by decide⟩
theorem ivX12_init : Cond.instanceMethod yX12_init ∈ gb_LW := tw_ (i := 953) (by decide +kernel) rfl
theorem cbX12_person : gb_cb mX12_person 3 := ⟨iniX12, tw_ (i := 1143) (by decide +kernel) rfl, ⟨by decide +kernel, by decide +kernel, by decide +kernel⟩, by decide⟩
theorem ivX12_person : Cond.instanceMethod yX12_person ∈ gb_LW := tw_ (i := 1141) (by decide +kernel) rfl
theorem slX12_person : Cond.selects yX12_person.cls yX12_person yX12_person ∈ gb_LW := tw_ (i := 1142) (by decide +kernel) rfl
theorem cbX12_in : gb_cb mX12_in 3 := ⟨iniX12, tw_ (i := 1147) (by decide +kernel) rfl, ⟨by decide +kernel, by decide +kernel, by decide +kernel⟩, by decide⟩
theorem ivX12_in : Cond.instanceMethod yX12_in ∈ gb_LW := tw_ (i := 1146) (by decide +kernel) rfl
theorem slX12_in : Cond.selects yX12_in.cls yX12_in yX12_in ∈ gb_LW := ts_ (i := 41) (by decide +kernel) rfl
theorem cbX12_ring : gb_cb mX12_ring 1 := ⟨iniX12, tw_ (i := 1151) (by decide +kernel) rfl, ⟨by decide +kernel, by decide +kernel, by decide +kernel⟩, by decide⟩
theorem ivX12_ring : Cond.instanceMethod yX12_ring ∈ gb_LW := tw_ (i := 1149) (by decide +kernel) rfl
theorem slX12_ring : Cond.selects yX12_ring.cls yX12_ring yX12_ring ∈ gb_LW := tw_ (i := 1150) (by decide +kernel) rfl
theorem cbX12_stand : gb_cb mX12_stand 2 := ⟨iniX12, tw_ (i := 1155) (by decide +kernel) rfl, ⟨by decide +kernel, by decide +kernel, by decide +kernel⟩, by decide⟩
theorem ivX12_stand : Cond.instanceMethod yX12_stand ∈ gb_LW := tw_ (i := 1153) (by decide +kernel) rfl
theorem slX12_stand : Cond.selects yX12_stand.cls yX12_stand yX12_stand ∈ gb_LW := tw_ (i := 1154) (by decide +kernel) rfl
theorem cbX12_isPlace : gb_cb mX12_isPlace 1 := ⟨iniX12, tw_ (i := 1159) (by decide +kernel) rfl, ⟨by decide +kernel, by decide +kernel, by decide +kernel⟩, by decide⟩
theorem ivX12_isPlace : Cond.instanceMethod yX12_isPlace ∈ gb_LW := tw_ (i := 1158) (by decide +kernel) rfl
theorem slX12_isPlace : Cond.selects yX12_isPlace.cls yX12_isPlace yX12_isPlace ∈ gb_LW := ts_ (i := 42) (by decide +kernel) rfl
theorem cbX12_isPerson : gb_cb mX12_isPerson 1 := ⟨iniX12, tw_ (i := 1163) (by decide +kernel) rfl, ⟨by decide +kernel, by decide +kernel, by decide +kernel⟩, by decide⟩
theorem ivX12_isPerson : Cond.instanceMethod yX12_isPerson ∈ gb_LW := tw_ (i := 1162) (by decide +kernel) rfl
theorem slX12_isPerson : Cond.selects yX12_isPerson.cls yX12_isPerson yX12_isPerson ∈ gb_LW := ts_ (i := 43) (by decide +kernel) rfl
theorem cbX12_ribbon : gb_cb mX12_ribbon 3 := ⟨iniX12, tw_ (i := 1167) (by decide +kernel) rfl, ⟨by decide +kernel, by decide +kernel, by decide +kernel⟩, by decide⟩
theorem ivX12_ribbon : Cond.instanceMethod yX12_ribbon ∈ gb_LW := tw_ (i := 1165) (by decide +kernel) rfl
theorem slX12_ribbon : Cond.selects yX12_ribbon.cls yX12_ribbon yX12_ribbon ∈ gb_LW := tw_ (i := 1166) (by decide +kernel) rfl
theorem cbX12_at : gb_cb mX12_at 2 := ⟨iniX12, tw_ (i := 1172) (by decide +kernel) rfl, ⟨by decide +kernel, by decide +kernel, by decide +kernel⟩, by decide⟩
theorem ivX12_at : Cond.instanceMethod yX12_at ∈ gb_LW := tw_ (i := 1170) (by decide +kernel) rfl
theorem slX12_at : Cond.selects yX12_at.cls yX12_at yX12_at ∈ gb_LW := tw_ (i := 1171) (by decide +kernel) rfl
theorem cbX12_begin : gb_cb mX12_begin 0 := ⟨iniX12, tw_ (i := 1176) (by decide +kernel) rfl, ⟨by decide +kernel, by decide +kernel, by decide +kernel⟩, by decide⟩
theorem ivX12_begin : Cond.instanceMethod yX12_begin ∈ gb_LW := tw_ (i := 1174) (by decide +kernel) rfl
theorem slX12_begin : Cond.selects yX12_begin.cls yX12_begin yX12_begin ∈ gb_LW := tw_ (i := 1175) (by decide +kernel) rfl
theorem cbX12_end : gb_cb mX12_end 0 := ⟨iniX12, tw_ (i := 1180) (by decide +kernel) rfl, ⟨by decide +kernel, by decide +kernel, by decide +kernel⟩, by decide⟩
theorem ivX12_end : Cond.instanceMethod yX12_end ∈ gb_LW := tw_ (i := 1178) (by decide +kernel) rfl
theorem slX12_end : Cond.selects yX12_end.cls yX12_end yX12_end ∈ gb_LW := tw_ (i := 1179) (by decide +kernel) rfl
theorem cbX12_girth : gb_cb mX12_girth 0 := ⟨iniX12, tw_ (i := 1184) (by decide +kernel) rfl, ⟨by decide +kernel, by decide +kernel, by decide +kernel⟩, by decide⟩
theorem ivX12_girth : Cond.instanceMethod yX12_girth ∈ gb_LW := tw_ (i := 1182) (by decide +kernel) rfl
theorem slX12_girth : Cond.selects yX12_girth.cls yX12_girth yX12_girth ∈ gb_LW := tw_ (i := 1183) (by decide +kernel) rfl
theorem cbX12_pass : gb_cb mX12_pass 2 := ⟨iniX12, tw_ (i := 1188) (by decide +kernel) rfl, ⟨by decide +kernel, by decide +kernel, by decide +kernel⟩, by decide⟩
theorem ivX12_pass : Cond.instanceMethod yX12_pass ∈ gb_LW := tw_ (i := 1186) (by decide +kernel) rfl
theorem slX12_pass : Cond.selects yX12_pass.cls yX12_pass yX12_pass ∈ gb_LW := tw_ (i := 1187) (by decide +kernel) rfl
theorem cbX12_after : gb_cb mX12_after 1 := ⟨iniX12, tw_ (i := 1192) (by decide +kernel) rfl, ⟨by decide +kernel, by decide +kernel, by decide +kernel⟩, by decide⟩
theorem ivX12_after : Cond.instanceMethod yX12_after ∈ gb_LW := tw_ (i := 1191) (by decide +kernel) rfl
theorem slX12_after : Cond.selects yX12_after.cls yX12_after yX12_after ∈ gb_LW := ts_ (i := 44) (by decide +kernel) rfl
theorem cbX12_walk : gb_cb mX12_walk 1 := ⟨iniX12, tw_ (i := 1196) (by decide +kernel) rfl, ⟨by decide +kernel, by decide +kernel, by decide +kernel⟩, by decide⟩
theorem ivX12_walk : Cond.instanceMethod yX12_walk ∈ gb_LW := tw_ (i := 1194) (by decide +kernel) rfl
theorem slX12_walk : Cond.selects yX12_walk.cls yX12_walk yX12_walk ∈ gb_LW := tw_ (i := 1195) (by decide +kernel) rfl
theorem cbX12_turn : gb_cb mX12_turn 2 := ⟨iniX12, tw_ (i := 1201) (by decide +kernel) rfl, ⟨by decide +kernel, by decide +kernel, by decide +kernel⟩, by decide⟩
theorem ivX12_turn : Cond.instanceMethod yX12_turn ∈ gb_LW := tw_ (i := 1200) (by decide +kernel) rfl
theorem slX12_turn : Cond.selects yX12_turn.cls yX12_turn yX12_turn ∈ gb_LW := ts_ (i := 45) (by decide +kernel) rfl
theorem cbX12_step : gb_cb mX12_step 1 := ⟨iniX12, tw_ (i := 1205) (by decide +kernel) rfl, ⟨by decide +kernel, by decide +kernel, by decide +kernel⟩, by decide⟩
theorem ivX12_step : Cond.instanceMethod yX12_step ∈ gb_LW := tw_ (i := 1203) (by decide +kernel) rfl
theorem slX12_step : Cond.selects yX12_step.cls yX12_step yX12_step ∈ gb_LW := tw_ (i := 1204) (by decide +kernel) rfl
theorem cbX12_rows : gb_cb mX12_rows 0 := ⟨iniX12, tw_ (i := 1209) (by decide +kernel) rfl, ⟨by decide +kernel, by decide +kernel, by decide +kernel⟩, by decide⟩
theorem ivX12_rows : Cond.instanceMethod yX12_rows ∈ gb_LW := tw_ (i := 1207) (by decide +kernel) rfl
theorem slX12_rows : Cond.selects yX12_rows.cls yX12_rows yX12_rows ∈ gb_LW := tw_ (i := 1208) (by decide +kernel) rfl
theorem cbX12_cloth : gb_cb mX12_cloth 3 := ⟨iniX12, tw_ (i := 1213) (by decide +kernel) rfl, ⟨by decide +kernel, by decide +kernel, by decide +kernel⟩, by decide⟩
theorem ivX12_cloth : Cond.instanceMethod yX12_cloth ∈ gb_LW := tw_ (i := 1211) (by decide +kernel) rfl
theorem slX12_cloth : Cond.selects yX12_cloth.cls yX12_cloth yX12_cloth ∈ gb_LW := tw_ (i := 1212) (by decide +kernel) rfl
theorem cbX12_topRibbon : gb_cb mX12_topRibbon 2 := ⟨iniX12, tw_ (i := 1217) (by decide +kernel) rfl, ⟨by decide +kernel, by decide +kernel, by decide +kernel⟩, by decide⟩
theorem ivX12_topRibbon : Cond.instanceMethod yX12_topRibbon ∈ gb_LW := tw_ (i := 1216) (by decide +kernel) rfl
theorem slX12_topRibbon : Cond.selects yX12_topRibbon.cls yX12_topRibbon yX12_topRibbon ∈ gb_LW := ts_ (i := 46) (by decide +kernel) rfl
theorem cbX12_ahead : gb_cb mX12_ahead 1 := ⟨iniX12, tw_ (i := 1221) (by decide +kernel) rfl, ⟨by decide +kernel, by decide +kernel, by decide +kernel⟩, by decide⟩
theorem ivX12_ahead : Cond.instanceMethod yX12_ahead ∈ gb_LW := tw_ (i := 1220) (by decide +kernel) rfl
theorem slX12_ahead : Cond.selects yX12_ahead.cls yX12_ahead yX12_ahead ∈ gb_LW := ts_ (i := 47) (by decide +kernel) rfl
theorem cbX12_beat : gb_cb mX12_beat 0 := ⟨iniX12, tw_ (i := 1225) (by decide +kernel) rfl, ⟨by decide +kernel, by decide +kernel, by decide +kernel⟩, by decide⟩
theorem ivX12_beat : Cond.instanceMethod yX12_beat ∈ gb_LW := tw_ (i := 1223) (by decide +kernel) rfl
theorem slX12_beat : Cond.selects yX12_beat.cls yX12_beat yX12_beat ∈ gb_LW := tw_ (i := 1224) (by decide +kernel) rfl
theorem cbX12_areLike : gb_cb mX12_areLike 2 := ⟨iniX12, tw_ (i := 1229) (by decide +kernel) rfl, ⟨by decide +kernel, by decide +kernel, by decide +kernel⟩, by decide⟩
theorem ivX12_areLike : Cond.instanceMethod yX12_areLike ∈ gb_LW := tw_ (i := 1228) (by decide +kernel) rfl
theorem slX12_areLike : Cond.selects yX12_areLike.cls yX12_areLike yX12_areLike ∈ gb_LW := ts_ (i := 48) (by decide +kernel) rfl
theorem cbX12_picture : gb_cb mX12_picture 3 := ⟨iniX12, tw_ (i := 1233) (by decide +kernel) rfl, ⟨by decide +kernel, by decide +kernel, by decide +kernel⟩, by decide⟩
theorem ivX12_picture : Cond.instanceMethod yX12_picture ∈ gb_LW := tw_ (i := 1231) (by decide +kernel) rfl
theorem slX12_picture : Cond.selects yX12_picture.cls yX12_picture yX12_picture ∈ gb_LW := tw_ (i := 1232) (by decide +kernel) rfl
theorem cbX12_pictureless : gb_cb mX12_pictureless 0 := ⟨iniX12, tw_ (i := 1237) (by decide +kernel) rfl, ⟨by decide +kernel, by decide +kernel, by decide +kernel⟩, by decide⟩
theorem ivX12_pictureless : Cond.instanceMethod yX12_pictureless ∈ gb_LW := tw_ (i := 1235) (by decide +kernel) rfl
theorem slX12_pictureless : Cond.selects yX12_pictureless.cls yX12_pictureless yX12_pictureless ∈ gb_LW := tw_ (i := 1236) (by decide +kernel) rfl
theorem cbX12_wrong : gb_cb mX12_wrong 0 := ⟨iniX12, tw_ (i := 1241) (by decide +kernel) rfl, ⟨by decide +kernel, by decide +kernel, by decide +kernel⟩, by decide⟩
theorem ivX12_wrong : Cond.instanceMethod yX12_wrong ∈ gb_LW := tw_ (i := 1239) (by decide +kernel) rfl
theorem slX12_wrong : Cond.selects yX12_wrong.cls yX12_wrong yX12_wrong ∈ gb_LW := tw_ (i := 1240) (by decide +kernel) rfl
theorem cbX12_wrongWith : gb_cb mX12_wrongWith 1 := ⟨iniX12, tw_ (i := 1245) (by decide +kernel) rfl, ⟨by decide +kernel, by decide +kernel, by decide +kernel⟩, by decide⟩
theorem ivX12_wrongWith : Cond.instanceMethod yX12_wrongWith ∈ gb_LW := tw_ (i := 1244) (by decide +kernel) rfl
theorem slX12_wrongWith : Cond.selects yX12_wrongWith.cls yX12_wrongWith yX12_wrongWith ∈ gb_LW := ts_ (i := 49) (by decide +kernel) rfl
theorem cbX12_colours : gb_cb mX12_colours 2 := ⟨iniX12, tw_ (i := 1249) (by decide +kernel) rfl, ⟨by decide +kernel, by decide +kernel, by decide +kernel⟩, by decide⟩
theorem ivX12_colours : Cond.instanceMethod yX12_colours ∈ gb_LW := tw_ (i := 1247) (by decide +kernel) rfl
theorem slX12_colours : Cond.selects yX12_colours.cls yX12_colours yX12_colours ∈ gb_LW := tw_ (i := 1248) (by decide +kernel) rfl
theorem cbX12_feed : gb_cb mX12_feed 2 := ⟨iniX12, tw_ (i := 1253) (by decide +kernel) rfl, ⟨by decide +kernel, by decide +kernel, by decide +kernel⟩, by decide⟩
theorem ivX12_feed : Cond.instanceMethod yX12_feed ∈ gb_LW := tw_ (i := 1251) (by decide +kernel) rfl
theorem slX12_feed : Cond.selects yX12_feed.cls yX12_feed yX12_feed ∈ gb_LW := tw_ (i := 1252) (by decide +kernel) rfl
theorem cbX12_figure : gb_cb mX12_figure 0 := ⟨iniX12, tw_ (i := 1257) (by decide +kernel) rfl, ⟨by decide +kernel, by decide +kernel, by decide +kernel⟩, by decide⟩
theorem ivX12_figure : Cond.instanceMethod yX12_figure ∈ gb_LW := tw_ (i := 1255) (by decide +kernel) rfl
theorem slX12_figure : Cond.selects yX12_figure.cls yX12_figure yX12_figure ∈ gb_LW := tw_ (i := 1256) (by decide +kernel) rfl
theorem cbX12_reads : gb_cb mX12_reads 0 := ⟨iniX12, tw_ (i := 1261) (by decide +kernel) rfl, ⟨by decide +kernel, by decide +kernel, by decide +kernel⟩, by decide⟩
theorem ivX12_reads : Cond.instanceMethod yX12_reads ∈ gb_LW := tw_ (i := 1260) (by decide +kernel) rfl
theorem slX12_reads : Cond.selects yX12_reads.cls yX12_reads yX12_reads ∈ gb_LW := ts_ (i := 50) (by decide +kernel) rfl
theorem cbX12_next : gb_cb mX12_next 0 := ⟨iniX12, tw_ (i := 1265) (by decide +kernel) rfl, ⟨by decide +kernel, by decide +kernel, by decide +kernel⟩, by decide⟩
theorem ivX12_next : Cond.instanceMethod yX12_next ∈ gb_LW := tw_ (i := 1264) (by decide +kernel) rfl
theorem slX12_next : Cond.selects yX12_next.cls yX12_next yX12_next ∈ gb_LW := ts_ (i := 51) (by decide +kernel) rfl
theorem cbX12_add : gb_cb mX12_add 1 := ⟨iniX12, tw_ (i := 1269) (by decide +kernel) rfl, ⟨by decide +kernel, by decide +kernel, by decide +kernel⟩, by decide⟩
theorem ivX12_add : Cond.instanceMethod yX12_add ∈ gb_LW := tw_ (i := 1268) (by decide +kernel) rfl
theorem slX12_add : Cond.selects yX12_add.cls yX12_add yX12_add ∈ gb_LW := ts_ (i := 52) (by decide +kernel) rfl
theorem cbX12_isFigure : gb_cb mX12_isFigure 1 := ⟨iniX12, tw_ (i := 1273) (by decide +kernel) rfl, ⟨by decide +kernel, by decide +kernel, by decide +kernel⟩, by decide⟩
theorem ivX12_isFigure : Cond.instanceMethod yX12_isFigure ∈ gb_LW := tw_ (i := 1272) (by decide +kernel) rfl
theorem slX12_isFigure : Cond.selects yX12_isFigure.cls yX12_isFigure yX12_isFigure ∈ gb_LW := ts_ (i := 53) (by decide +kernel) rfl
theorem cbX12_repeat : gb_cb mX12_repeat 2 := ⟨iniX12, tw_ (i := 1277) (by decide +kernel) rfl, ⟨by decide +kernel, by decide +kernel, by decide +kernel⟩, by decide⟩
theorem ivX12_repeat : Cond.instanceMethod yX12_repeat ∈ gb_LW := tw_ (i := 1276) (by decide +kernel) rfl
theorem slX12_repeat : Cond.selects yX12_repeat.cls yX12_repeat yX12_repeat ∈ gb_LW := ts_ (i := 54) (by decide +kernel) rfl
theorem cbX12_undo : gb_cb mX12_undo 1 := ⟨iniX12, tw_ (i := 1281) (by decide +kernel) rfl, ⟨by decide +kernel, by decide +kernel, by decide +kernel⟩, by decide⟩
theorem ivX12_undo : Cond.instanceMethod yX12_undo ∈ gb_LW := tw_ (i := 1280) (by decide +kernel) rfl
theorem slX12_undo : Cond.selects yX12_undo.cls yX12_undo yX12_undo ∈ gb_LW := ts_ (i := 55) (by decide +kernel) rfl
theorem cbX12_undoing : gb_cb mX12_undoing 1 := ⟨iniX12, tw_ (i := 1285) (by decide +kernel) rfl, ⟨by decide +kernel, by decide +kernel, by decide +kernel⟩, by decide⟩
theorem ivX12_undoing : Cond.instanceMethod yX12_undoing ∈ gb_LW := tw_ (i := 1284) (by decide +kernel) rfl
theorem slX12_undoing : Cond.selects yX12_undoing.cls yX12_undoing yX12_undoing ∈ gb_LW := ts_ (i := 56) (by decide +kernel) rfl
theorem cbX12_told : gb_cb mX12_told 2 := ⟨iniX12, tw_ (i := 1289) (by decide +kernel) rfl, ⟨by decide +kernel, by decide +kernel, by decide +kernel⟩, by decide⟩
theorem ivX12_told : Cond.instanceMethod yX12_told ∈ gb_LW := tw_ (i := 1287) (by decide +kernel) rfl
theorem slX12_told : Cond.selects yX12_told.cls yX12_told yX12_told ∈ gb_LW := tw_ (i := 1288) (by decide +kernel) rfl
theorem cbX12_dance : gb_cb mX12_dance 1 := ⟨iniX12, tw_ (i := 1293) (by decide +kernel) rfl, ⟨by decide +kernel, by decide +kernel, by decide +kernel⟩, by decide⟩
theorem ivX12_dance : Cond.instanceMethod yX12_dance ∈ gb_LW := tw_ (i := 1291) (by decide +kernel) rfl
theorem slX12_dance : Cond.selects yX12_dance.cls yX12_dance yX12_dance ∈ gb_LW := tw_ (i := 1292) (by decide +kernel) rfl
theorem cbX12_form : gb_cb mX12_form 2 := ⟨iniX12, tw_ (i := 1299) (by decide +kernel) rfl, ⟨by decide +kernel, by decide +kernel, by decide +kernel⟩, by decide⟩
theorem ivX12_form : Cond.instanceMethod yX12_form ∈ gb_LW := tw_ (i := 1297) (by decide +kernel) rfl
theorem slX12_form : Cond.selects yX12_form.cls yX12_form yX12_form ∈ gb_LW := tw_ (i := 1298) (by decide +kernel) rfl
theorem cbX12_findForm : gb_cb mX12_findForm 1 := ⟨iniX12, tw_ (i := 1303) (by decide +kernel) rfl, ⟨by decide +kernel, by decide +kernel, by decide +kernel⟩, by decide⟩
theorem ivX12_findForm : Cond.instanceMethod yX12_findForm ∈ gb_LW := tw_ (i := 1302) (by decide +kernel) rfl
theorem slX12_findForm : Cond.selects yX12_findForm.cls yX12_findForm yX12_findForm ∈ gb_LW := ts_ (i := 57) (by decide +kernel) rfl
theorem cbX12_stepsOf : gb_cb mX12_stepsOf 1 := ⟨iniX12, tw_ (i := 1307) (by decide +kernel) rfl, ⟨by decide +kernel, by decide +kernel, by decide +kernel⟩, by decide⟩
theorem ivX12_stepsOf : Cond.instanceMethod yX12_stepsOf ∈ gb_LW := tw_ (i := 1306) (by decide +kernel) rfl
theorem slX12_stepsOf : Cond.selects yX12_stepsOf.cls yX12_stepsOf yX12_stepsOf ∈ gb_LW := ts_ (i := 58) (by decide +kernel) rfl
theorem cbX12_stepOf : gb_cb mX12_stepOf 2 := ⟨iniX12, tw_ (i := 1311) (by decide +kernel) rfl, ⟨by decide +kernel, by decide +kernel, by decide +kernel⟩, by decide⟩
theorem ivX12_stepOf : Cond.instanceMethod yX12_stepOf ∈ gb_LW := tw_ (i := 1310) (by decide +kernel) rfl
theorem slX12_stepOf : Cond.selects yX12_stepOf.cls yX12_stepOf yX12_stepOf ∈ gb_LW := ts_ (i := 59) (by decide +kernel) rfl
theorem cbX12_take : gb_cb mX12_take 1 := ⟨iniX12, tw_ (i := 1315) (by decide +kernel) rfl, ⟨by decide +kernel, by decide +kernel, by decide +kernel⟩, by decide⟩
theorem ivX12_take : Cond.instanceMethod yX12_take ∈ gb_LW := tw_ (i := 1314) (by decide +kernel) rfl
theorem slX12_take : Cond.selects yX12_take.cls yX12_take yX12_take ∈ gb_LW := ts_ (i := 60) (by decide +kernel) rfl
theorem cbX12_areFar : gb_cb mX12_areFar 2 := ⟨iniX12, tw_ (i := 1319) (by decide +kernel) rfl, ⟨by decide +kernel, by decide +kernel, by decide +kernel⟩, by decide⟩
theorem ivX12_areFar : Cond.instanceMethod yX12_areFar ∈ gb_LW := tw_ (i := 1318) (by decide +kernel) rfl
theorem slX12_areFar : Cond.selects yX12_areFar.cls yX12_areFar yX12_areFar ∈ gb_LW := ts_ (i := 61) (by decide +kernel) rfl
theorem cbX12_abs : gb_cb mX12_abs 1 := ⟨iniX12, tw_ (i := 1323) (by decide +kernel) rfl, ⟨by decide +kernel, by decide +kernel, by decide +kernel⟩, by decide⟩
theorem ivX12_abs : Cond.instanceMethod yX12_abs ∈ gb_LW := tw_ (i := 1322) (by decide +kernel) rfl
theorem slX12_abs : Cond.selects yX12_abs.cls yX12_abs yX12_abs ∈ gb_LW := ts_ (i := 62) (by decide +kernel) rfl
theorem cbX12_bringLeast : gb_cb mX12_bringLeast 1 := ⟨iniX12, tw_ (i := 1327) (by decide +kernel) rfl, ⟨by decide +kernel, by decide +kernel, by decide +kernel⟩, by decide⟩
theorem ivX12_bringLeast : Cond.instanceMethod yX12_bringLeast ∈ gb_LW := tw_ (i := 1326) (by decide +kernel) rfl
theorem slX12_bringLeast : Cond.selects yX12_bringLeast.cls yX12_bringLeast yX12_bringLeast ∈ gb_LW := ts_ (i := 63) (by decide +kernel) rfl
theorem cbX12_akin : gb_cb mX12_akin 2 := ⟨iniX12, tw_ (i := 1331) (by decide +kernel) rfl, ⟨by decide +kernel, by decide +kernel, by decide +kernel⟩, by decide⟩
theorem ivX12_akin : Cond.instanceMethod yX12_akin ∈ gb_LW := tw_ (i := 1329) (by decide +kernel) rfl
theorem slX12_akin : Cond.selects yX12_akin.cls yX12_akin yX12_akin ∈ gb_LW := tw_ (i := 1330) (by decide +kernel) rfl
theorem cbX12_right : gb_cb mX12_right 1 := ⟨iniX12, tw_ (i := 1335) (by decide +kernel) rfl, ⟨by decide +kernel, by decide +kernel, by decide +kernel⟩, by decide⟩
theorem ivX12_right : Cond.instanceMethod yX12_right ∈ gb_LW := tw_ (i := 1333) (by decide +kernel) rfl
theorem slX12_right : Cond.selects yX12_right.cls yX12_right yX12_right ∈ gb_LW := tw_ (i := 1334) (by decide +kernel) rfl
theorem cbX12_makes : gb_cb mX12_makes 3 := ⟨iniX12, tw_ (i := 1339) (by decide +kernel) rfl, ⟨by decide +kernel, by decide +kernel, by decide +kernel⟩, by decide⟩
theorem ivX12_makes : Cond.instanceMethod yX12_makes ∈ gb_LW := tw_ (i := 1338) (by decide +kernel) rfl
theorem slX12_makes : Cond.selects yX12_makes.cls yX12_makes yX12_makes ∈ gb_LW := ts_ (i := 64) (by decide +kernel) rfl
theorem cbX12_tryBegin : gb_cb mX12_tryBegin 0 := ⟨iniX12, tw_ (i := 1343) (by decide +kernel) rfl, ⟨by decide +kernel, by decide +kernel, by decide +kernel⟩, by decide⟩
theorem ivX12_tryBegin : Cond.instanceMethod yX12_tryBegin ∈ gb_LW := tw_ (i := 1342) (by decide +kernel) rfl
theorem slX12_tryBegin : Cond.selects yX12_tryBegin.cls yX12_tryBegin yX12_tryBegin ∈ gb_LW := ts_ (i := 65) (by decide +kernel) rfl
theorem cbX12_tryStep : gb_cb mX12_tryStep 1 := ⟨iniX12, tw_ (i := 1347) (by decide +kernel) rfl, ⟨by decide +kernel, by decide +kernel, by decide +kernel⟩, by decide⟩
theorem ivX12_tryStep : Cond.instanceMethod yX12_tryStep ∈ gb_LW := tw_ (i := 1346) (by decide +kernel) rfl
theorem slX12_tryStep : Cond.selects yX12_tryStep.cls yX12_tryStep yX12_tryStep ∈ gb_LW := ts_ (i := 66) (by decide +kernel) rfl
theorem cbX12_tryWalk : gb_cb mX12_tryWalk 1 := ⟨iniX12, tw_ (i := 1351) (by decide +kernel) rfl, ⟨by decide +kernel, by decide +kernel, by decide +kernel⟩, by decide⟩
theorem ivX12_tryWalk : Cond.instanceMethod yX12_tryWalk ∈ gb_LW := tw_ (i := 1350) (by decide +kernel) rfl
theorem slX12_tryWalk : Cond.selects yX12_tryWalk.cls yX12_tryWalk yX12_tryWalk ∈ gb_LW := ts_ (i := 67) (by decide +kernel) rfl
theorem cbX12_tryPass : gb_cb mX12_tryPass 2 := ⟨iniX12, tw_ (i := 1355) (by decide +kernel) rfl, ⟨by decide +kernel, by decide +kernel, by decide +kernel⟩, by decide⟩
theorem ivX12_tryPass : Cond.instanceMethod yX12_tryPass ∈ gb_LW := tw_ (i := 1354) (by decide +kernel) rfl
theorem slX12_tryPass : Cond.selects yX12_tryPass.cls yX12_tryPass yX12_tryPass ∈ gb_LW := ts_ (i := 68) (by decide +kernel) rfl
theorem cbX12_slips : gb_cb mX12_slips 2 := ⟨iniX12, tw_ (i := 1359) (by decide +kernel) rfl, ⟨by decide +kernel, by decide +kernel, by decide +kernel⟩, by decide⟩
theorem ivX12_slips : Cond.instanceMethod yX12_slips ∈ gb_LW := tw_ (i := 1357) (by decide +kernel) rfl
theorem slX12_slips : Cond.selects yX12_slips.cls yX12_slips yX12_slips ∈ gb_LW := tw_ (i := 1358) (by decide +kernel) rfl
theorem cbX12_fewest : gb_cb mX12_fewest 2 := ⟨iniX12, tw_ (i := 1363) (by decide +kernel) rfl, ⟨by decide +kernel, by decide +kernel, by decide +kernel⟩, by decide⟩
theorem ivX12_fewest : Cond.instanceMethod yX12_fewest ∈ gb_LW := tw_ (i := 1361) (by decide +kernel) rfl
theorem slX12_fewest : Cond.selects yX12_fewest.cls yX12_fewest yX12_fewest ∈ gb_LW := tw_ (i := 1362) (by decide +kernel) rfl
theorem cbX12_isTape : gb_cb mX12_isTape 1 := ⟨iniX12, tw_ (i := 1367) (by decide +kernel) rfl, ⟨by decide +kernel, by decide +kernel, by decide +kernel⟩, by decide⟩
theorem ivX12_isTape : Cond.instanceMethod yX12_isTape ∈ gb_LW := tw_ (i := 1366) (by decide +kernel) rfl
theorem slX12_isTape : Cond.selects yX12_isTape.cls yX12_isTape yX12_isTape ∈ gb_LW := ts_ (i := 69) (by decide +kernel) rfl
theorem cbX12_findFar : gb_cb mX12_findFar 0 := ⟨iniX12, tw_ (i := 1371) (by decide +kernel) rfl, ⟨by decide +kernel, by decide +kernel, by decide +kernel⟩, by decide⟩
theorem ivX12_findFar : Cond.instanceMethod yX12_findFar ∈ gb_LW := tw_ (i := 1370) (by decide +kernel) rfl
theorem slX12_findFar : Cond.selects yX12_findFar.cls yX12_findFar yX12_findFar ∈ gb_LW := ts_ (i := 70) (by decide +kernel) rfl
theorem cbX12_rank : gb_cb mX12_rank 1 := ⟨iniX12, tw_ (i := 1375) (by decide +kernel) rfl, ⟨by decide +kernel, by decide +kernel, by decide +kernel⟩, by decide⟩
theorem ivX12_rank : Cond.instanceMethod yX12_rank ∈ gb_LW := tw_ (i := 1374) (by decide +kernel) rfl
theorem slX12_rank : Cond.selects yX12_rank.cls yX12_rank yX12_rank ∈ gb_LW := ts_ (i := 71) (by decide +kernel) rfl
theorem cbX12_unrank : gb_cb mX12_unrank 2 := ⟨iniX12, tw_ (i := 1379) (by decide +kernel) rfl, ⟨by decide +kernel, by decide +kernel, by decide +kernel⟩, by decide⟩
theorem ivX12_unrank : Cond.instanceMethod yX12_unrank ∈ gb_LW := tw_ (i := 1378) (by decide +kernel) rfl
theorem slX12_unrank : Cond.selects yX12_unrank.cls yX12_unrank yX12_unrank ∈ gb_LW := ts_ (i := 72) (by decide +kernel) rfl
theorem cbX12_swap : gb_cb mX12_swap 2 := ⟨iniX12, tw_ (i := 1383) (by decide +kernel) rfl, ⟨by decide +kernel, by decide +kernel, by decide +kernel⟩, by decide⟩
theorem ivX12_swap : Cond.instanceMethod yX12_swap ∈ gb_LW := tw_ (i := 1382) (by decide +kernel) rfl
theorem slX12_swap : Cond.selects yX12_swap.cls yX12_swap yX12_swap ∈ gb_LW := ts_ (i := 73) (by decide +kernel) rfl
theorem cbX12_set : gb_cb mX12_set 2 := ⟨iniX12, tw_ (i := 1387) (by decide +kernel) rfl, ⟨by decide +kernel, by decide +kernel, by decide +kernel⟩, by decide⟩
theorem ivX12_set : Cond.instanceMethod yX12_set ∈ gb_LW := tw_ (i := 1385) (by decide +kernel) rfl
theorem slX12_set : Cond.selects yX12_set.cls yX12_set yX12_set ∈ gb_LW := tw_ (i := 1386) (by decide +kernel) rfl
theorem cbX12_findSet : gb_cb mX12_findSet 1 := ⟨iniX12, tw_ (i := 1391) (by decide +kernel) rfl, ⟨by decide +kernel, by decide +kernel, by decide +kernel⟩, by decide⟩
theorem ivX12_findSet : Cond.instanceMethod yX12_findSet ∈ gb_LW := tw_ (i := 1390) (by decide +kernel) rfl
theorem slX12_findSet : Cond.selects yX12_findSet.cls yX12_findSet yX12_findSet ∈ gb_LW := ts_ (i := 74) (by decide +kernel) rfl
theorem cbX12_spent : gb_cb mX12_spent 2 := ⟨iniX12, tw_ (i := 1396) (by decide +kernel) rfl, ⟨by decide +kernel, by decide +kernel, by decide +kernel⟩, by decide⟩
theorem ivX12_spent : Cond.instanceMethod yX12_spent ∈ gb_LW := tw_ (i := 1394) (by decide +kernel) rfl
theorem slX12_spent : Cond.selects yX12_spent.cls yX12_spent yX12_spent ∈ gb_LW := tw_ (i := 1395) (by decide +kernel) rfl
theorem cbX12_act : gb_cb mX12_act 3 := ⟨iniX12, tw_ (i := 1400) (by decide +kernel) rfl, ⟨by decide +kernel, by decide +kernel, by decide +kernel⟩, by decide⟩
theorem ivX12_act : Cond.instanceMethod yX12_act ∈ gb_LW := tw_ (i := 1398) (by decide +kernel) rfl
theorem slX12_act : Cond.selects yX12_act.cls yX12_act yX12_act ∈ gb_LW := tw_ (i := 1399) (by decide +kernel) rfl
theorem cbX12_greetsOf : gb_cb mX12_greetsOf 2 := ⟨iniX12, tw_ (i := 1404) (by decide +kernel) rfl, ⟨by decide +kernel, by decide +kernel, by decide +kernel⟩, by decide⟩
theorem ivX12_greetsOf : Cond.instanceMethod yX12_greetsOf ∈ gb_LW := tw_ (i := 1403) (by decide +kernel) rfl
theorem slX12_greetsOf : Cond.selects yX12_greetsOf.cls yX12_greetsOf yX12_greetsOf ∈ gb_LW := ts_ (i := 75) (by decide +kernel) rfl
theorem cbX12_body : gb_cb mX12_body 1 := ⟨iniX12, tw_ (i := 1408) (by decide +kernel) rfl, ⟨by decide +kernel, by decide +kernel, by decide +kernel⟩, by decide⟩
theorem ivX12_body : Cond.instanceMethod yX12_body ∈ gb_LW := tw_ (i := 1407) (by decide +kernel) rfl
theorem slX12_body : Cond.selects yX12_body.cls yX12_body yX12_body ∈ gb_LW := ts_ (i := 76) (by decide +kernel) rfl
theorem cbX12_plainGreets : gb_cb mX12_plainGreets 2 := ⟨iniX12, tw_ (i := 1412) (by decide +kernel) rfl, ⟨by decide +kernel, by decide +kernel, by decide +kernel⟩, by decide⟩
theorem ivX12_plainGreets : Cond.instanceMethod yX12_plainGreets ∈ gb_LW := tw_ (i := 1411) (by decide +kernel) rfl
theorem slX12_plainGreets : Cond.selects yX12_plainGreets.cls yX12_plainGreets yX12_plainGreets ∈ gb_LW := ts_ (i := 77) (by decide +kernel) rfl
theorem cbX12_leadsOf : gb_cb mX12_leadsOf 2 := ⟨iniX12, tw_ (i := 1416) (by decide +kernel) rfl, ⟨by decide +kernel, by decide +kernel, by decide +kernel⟩, by decide⟩
theorem ivX12_leadsOf : Cond.instanceMethod yX12_leadsOf ∈ gb_LW := tw_ (i := 1415) (by decide +kernel) rfl
theorem slX12_leadsOf : Cond.selects yX12_leadsOf.cls yX12_leadsOf yX12_leadsOf ∈ gb_LW := ts_ (i := 78) (by decide +kernel) rfl
theorem cbX12_leaderLeads : gb_cb mX12_leaderLeads 2 := ⟨iniX12, tw_ (i := 1420) (by decide +kernel) rfl, ⟨by decide +kernel, by decide +kernel, by decide +kernel⟩, by decide⟩
theorem ivX12_leaderLeads : Cond.instanceMethod yX12_leaderLeads ∈ gb_LW := tw_ (i := 1419) (by decide +kernel) rfl
theorem slX12_leaderLeads : Cond.selects yX12_leaderLeads.cls yX12_leaderLeads yX12_leaderLeads ∈ gb_LW := ts_ (i := 79) (by decide +kernel) rfl
theorem cbX12_plainLeads : gb_cb mX12_plainLeads 2 := ⟨iniX12, tw_ (i := 1424) (by decide +kernel) rfl, ⟨by decide +kernel, by decide +kernel, by decide +kernel⟩, by decide⟩
theorem ivX12_plainLeads : Cond.instanceMethod yX12_plainLeads ∈ gb_LW := tw_ (i := 1423) (by decide +kernel) rfl
theorem slX12_plainLeads : Cond.selects yX12_plainLeads.cls yX12_plainLeads yX12_plainLeads ∈ gb_LW := ts_ (i := 80) (by decide +kernel) rfl
theorem cbX12_restsOf : gb_cb mX12_restsOf 2 := ⟨iniX12, tw_ (i := 1428) (by decide +kernel) rfl, ⟨by decide +kernel, by decide +kernel, by decide +kernel⟩, by decide⟩
theorem ivX12_restsOf : Cond.instanceMethod yX12_restsOf ∈ gb_LW := tw_ (i := 1427) (by decide +kernel) rfl
theorem slX12_restsOf : Cond.selects yX12_restsOf.cls yX12_restsOf yX12_restsOf ∈ gb_LW := ts_ (i := 81) (by decide +kernel) rfl
theorem cbX12_plainRests : gb_cb mX12_plainRests 2 := ⟨iniX12, tw_ (i := 1432) (by decide +kernel) rfl, ⟨by decide +kernel, by decide +kernel, by decide +kernel⟩, by decide⟩
theorem ivX12_plainRests : Cond.instanceMethod yX12_plainRests ∈ gb_LW := tw_ (i := 1431) (by decide +kernel) rfl
theorem slX12_plainRests : Cond.selects yX12_plainRests.cls yX12_plainRests yX12_plainRests ∈ gb_LW := ts_ (i := 82) (by decide +kernel) rfl
theorem cbX12_trace : gb_cb mX12_trace 1 := ⟨iniX12, tw_ (i := 1436) (by decide +kernel) rfl, ⟨by decide +kernel, by decide +kernel, by decide +kernel⟩, by decide⟩
theorem ivX12_trace : Cond.instanceMethod yX12_trace ∈ gb_LW := tw_ (i := 1434) (by decide +kernel) rfl
theorem slX12_trace : Cond.selects yX12_trace.cls yX12_trace yX12_trace ∈ gb_LW := tw_ (i := 1435) (by decide +kernel) rfl
theorem cbX12_taken : gb_cb mX12_taken 2 := ⟨iniX12, tw_ (i := 1440) (by decide +kernel) rfl, ⟨by decide +kernel, by decide +kernel, by decide +kernel⟩, by decide⟩
theorem ivX12_taken : Cond.instanceMethod yX12_taken ∈ gb_LW := tw_ (i := 1438) (by decide +kernel) rfl
theorem slX12_taken : Cond.selects yX12_taken.cls yX12_taken yX12_taken ∈ gb_LW := tw_ (i := 1439) (by decide +kernel) rfl
theorem cbX12_count : gb_cb mX12_count 1 := ⟨iniX12, tw_ (i := 1444) (by decide +kernel) rfl, ⟨by decide +kernel, by decide +kernel, by decide +kernel⟩, by decide⟩
theorem ivX12_count : Cond.instanceMethod yX12_count ∈ gb_LW := tw_ (i := 1442) (by decide +kernel) rfl
theorem slX12_count : Cond.selects yX12_count.cls yX12_count yX12_count ∈ gb_LW := tw_ (i := 1443) (by decide +kernel) rfl
theorem cbX12_tape : gb_cb mX12_tape 3 := ⟨iniX12, tw_ (i := 1448) (by decide +kernel) rfl, ⟨by decide +kernel, by decide +kernel, by decide +kernel⟩, by decide⟩
theorem ivX12_tape : Cond.instanceMethod yX12_tape ∈ gb_LW := tw_ (i := 1446) (by decide +kernel) rfl
theorem slX12_tape : Cond.selects yX12_tape.cls yX12_tape yX12_tape ∈ gb_LW := tw_ (i := 1447) (by decide +kernel) rfl
theorem cbX12_item : gb_cb mX12_item 3 := ⟨iniX12, tw_ (i := 1452) (by decide +kernel) rfl, ⟨by decide +kernel, by decide +kernel, by decide +kernel⟩, by decide⟩
theorem ivX12_item : Cond.instanceMethod yX12_item ∈ gb_LW := tw_ (i := 1450) (by decide +kernel) rfl
theorem slX12_item : Cond.selects yX12_item.cls yX12_item yX12_item ∈ gb_LW := tw_ (i := 1451) (by decide +kernel) rfl
theorem cbX12_narrow : gb_cb mX12_narrow 2 := ⟨iniX12, tw_ (i := 1456) (by decide +kernel) rfl, ⟨by decide +kernel, by decide +kernel, by decide +kernel⟩, by decide⟩
theorem ivX12_narrow : Cond.instanceMethod yX12_narrow ∈ gb_LW := tw_ (i := 1455) (by decide +kernel) rfl
theorem slX12_narrow : Cond.selects yX12_narrow.cls yX12_narrow yX12_narrow ∈ gb_LW := ts_ (i := 83) (by decide +kernel) rfl
theorem cbX12_read : gb_cb mX12_read 2 := ⟨iniX12, tw_ (i := 1461) (by decide +kernel) rfl, ⟨by decide +kernel, by decide +kernel, by decide +kernel⟩, by decide⟩
theorem ivX12_read : Cond.instanceMethod yX12_read ∈ gb_LW := tw_ (i := 1459) (by decide +kernel) rfl
theorem slX12_read : Cond.selects yX12_read.cls yX12_read yX12_read ∈ gb_LW := tw_ (i := 1460) (by decide +kernel) rfl
theorem cbX12_shift : gb_cb mX12_shift 5 := ⟨iniX12, tw_ (i := 1466) (by decide +kernel) rfl, ⟨by decide +kernel, by decide +kernel, by decide +kernel⟩, by decide⟩
theorem ivX12_shift : Cond.instanceMethod yX12_shift ∈ gb_LW := tw_ (i := 1464) (by decide +kernel) rfl
theorem slX12_shift : Cond.selects yX12_shift.cls yX12_shift yX12_shift ∈ gb_LW := tw_ (i := 1465) (by decide +kernel) rfl
theorem ob_i : Cond.instanceMethod objectInit ∈ gb_LW := tw_ (i := 24) (by decide +kernel) rfl
theorem ob_c : Cond.code objectInit ⟨#[0xb1]⟩ 1 none ∈ gb_LW := tw_ (i := 25) (by decide +kernel) rfl
theorem ac_n : Cond.native arraycopyName ∈ gb_LW := tw_ (i := 425) (by decide +kernel) rfl
theorem ac_s : Cond.static arraycopyName ∈ gb_LW := tw_ (i := 424) (by decide +kernel) rfl
theorem qL_9 : gb_ci RL 9 mX11_init 0 := ⟨cbX11_init, tw_ (i := 20) (by decide +kernel) rfl, ivX11_init, rfl, rfl⟩
theorem qX11_1 : Cond.methodLink RX11 1 objectInit ∈ gb_LW ∧ Cond.instanceMethod objectInit ∈ gb_LW ∧ Cond.code objectInit ⟨#[0xb1]⟩ 1 none ∈ gb_LW := ⟨tw_ (i := 23) (by decide +kernel) rfl, ob_i, ob_c⟩
theorem qX0_3 : Cond.methodLink RX0 3 objectInit ∈ gb_LW ∧ Cond.instanceMethod objectInit ∈ gb_LW ∧ Cond.code objectInit ⟨#[0xb1]⟩ 1 none ∈ gb_LW := ⟨tw_ (i := 33) (by decide +kernel) rfl, ob_i, ob_c⟩
theorem qX2_3 : Cond.methodLink RX2 3 objectInit ∈ gb_LW ∧ Cond.instanceMethod objectInit ∈ gb_LW ∧ Cond.code objectInit ⟨#[0xb1]⟩ 1 none ∈ gb_LW := ⟨tw_ (i := 48) (by decide +kernel) rfl, ob_i, ob_c⟩
theorem qX11_46 : gb_ci RX11 46 mX9_init 1 := ⟨cbX9_init, tw_ (i := 82) (by decide +kernel) rfl, ivX9_init, rfl, rfl⟩
theorem qX9_3 : Cond.methodLink RX9 3 objectInit ∈ gb_LW ∧ Cond.instanceMethod objectInit ∈ gb_LW ∧ Cond.code objectInit ⟨#[0xb1]⟩ 1 none ∈ gb_LW := ⟨tw_ (i := 85) (by decide +kernel) rfl, ob_i, ob_c⟩
theorem qX1_3 : Cond.methodLink RX1 3 objectInit ∈ gb_LW ∧ Cond.instanceMethod objectInit ∈ gb_LW ∧ Cond.code objectInit ⟨#[0xb1]⟩ 1 none ∈ gb_LW := ⟨tw_ (i := 106) (by decide +kernel) rfl, ob_i, ob_c⟩
theorem qX6_3 : Cond.methodLink RX6 3 objectInit ∈ gb_LW ∧ Cond.instanceMethod objectInit ∈ gb_LW ∧ Cond.code objectInit ⟨#[0xb1]⟩ 1 none ∈ gb_LW := ⟨tw_ (i := 133) (by decide +kernel) rfl, ob_i, ob_c⟩
theorem qX7_3 : Cond.methodLink RX7 3 objectInit ∈ gb_LW ∧ Cond.instanceMethod objectInit ∈ gb_LW ∧ Cond.code objectInit ⟨#[0xb1]⟩ 1 none ∈ gb_LW := ⟨tw_ (i := 164) (by decide +kernel) rfl, ob_i, ob_c⟩
theorem qX7_28 : gb_ci RX7 28 mX9_init 1 := ⟨cbX9_init, tw_ (i := 167) (by decide +kernel) rfl, ivX9_init, rfl, rfl⟩
theorem qX3_3 : Cond.methodLink RX3 3 objectInit ∈ gb_LW ∧ Cond.instanceMethod objectInit ∈ gb_LW ∧ Cond.code objectInit ⟨#[0xb1]⟩ 1 none ∈ gb_LW := ⟨tw_ (i := 201) (by decide +kernel) rfl, ob_i, ob_c⟩
theorem qX4_3 : Cond.methodLink RX4 3 objectInit ∈ gb_LW ∧ Cond.instanceMethod objectInit ∈ gb_LW ∧ Cond.code objectInit ⟨#[0xb1]⟩ 1 none ∈ gb_LW := ⟨tw_ (i := 232) (by decide +kernel) rfl, ob_i, ob_c⟩
theorem qX8_3 : Cond.methodLink RX8 3 objectInit ∈ gb_LW ∧ Cond.instanceMethod objectInit ∈ gb_LW ∧ Cond.code objectInit ⟨#[0xb1]⟩ 1 none ∈ gb_LW := ⟨tw_ (i := 256) (by decide +kernel) rfl, ob_i, ob_c⟩
theorem qX10_3 : Cond.methodLink RX10 3 objectInit ∈ gb_LW ∧ Cond.instanceMethod objectInit ∈ gb_LW ∧ Cond.code objectInit ⟨#[0xb1]⟩ 1 none ∈ gb_LW := ⟨tw_ (i := 289) (by decide +kernel) rfl, ob_i, ob_c⟩
theorem qL_13 : gb_cv RL 13 mX11_person 11 3 := ⟨cbX11_person, tw_ (i := 361) (by decide +kernel) rfl, ivX11_person, slX11_person, by decide, rfl⟩
theorem qX11_114 : gb_ci RX11 114 mX5_init 4 := ⟨cbX5_init, tw_ (i := 366) (by decide +kernel) rfl, ivX5_init, rfl, rfl⟩
theorem qX5_3 : Cond.methodLink RX5 3 objectInit ∈ gb_LW ∧ Cond.instanceMethod objectInit ∈ gb_LW ∧ Cond.code objectInit ⟨#[0xb1]⟩ 1 none ∈ gb_LW := ⟨tw_ (i := 369) (by decide +kernel) rfl, ob_i, ob_c⟩
theorem qL_18 : gb_cv RL 18 mX11_ring 11 1 := ⟨cbX11_ring, tw_ (i := 391) (by decide +kernel) rfl, ivX11_ring, slX11_ring, by decide, rfl⟩
theorem qX11_117 : gb_cv RX11 117 mX2_lay 2 1 := ⟨cbX2_lay, tw_ (i := 395) (by decide +kernel) rfl, ivX2_lay, slX2_lay, by decide, rfl⟩
theorem qX2_34 : gb_cs RX2 34 mJ7_fill_53178 2 := ⟨cbJ7_fill_53178, tw_ (i := 399) (by decide +kernel) rfl, svJ7_fill_53178⟩
theorem qX2_40 : gb_cv RX2 40 mX2_restart 2 0 := ⟨cbX2_restart, tw_ (i := 402) (by decide +kernel) rfl, ivX2_restart, slX2_restart, by decide, rfl⟩
theorem qX2_43 : gb_cv RX2 43 mX2_callByPlaces 2 0 := ⟨cbX2_callByPlaces, tw_ (i := 406) (by decide +kernel) rfl, ivX2_callByPlaces, slX2_callByPlaces, by decide, rfl⟩
theorem qX2_46 : gb_cv RX2 46 mX2_unmark 2 0 := ⟨cbX2_unmark, tw_ (i := 410) (by decide +kernel) rfl, ivX2_unmark, slX2_unmark, by decide, rfl⟩
theorem qX11_120 : gb_cs RX11 120 mJ7_fill_53178 2 := ⟨cbJ7_fill_53178, tw_ (i := 414) (by decide +kernel) rfl, svJ7_fill_53178⟩
theorem qX11_126 : gb_cv RX11 126 mX9_clear 9 0 := ⟨cbX9_clear, tw_ (i := 415) (by decide +kernel) rfl, ivX9_clear, slX9_clear, by decide, rfl⟩
theorem qX11_129 : gb_cv RX11 129 mX1_open 1 2 := ⟨cbX1_open, tw_ (i := 419) (by decide +kernel) rfl, ivX1_open, slX1_open, by decide, rfl⟩
theorem qX1_31 : Cond.methodLink RX1 31 arraycopyName ∈ gb_LW ∧ Cond.native arraycopyName ∈ gb_LW ∧ Cond.static arraycopyName ∈ gb_LW ∧ Cond.initialized "java/lang/System" ∈ gb_LW := ⟨tw_ (i := 423) (by decide +kernel) rfl, ac_n, ac_s, iniJ10⟩
theorem qL_23 : gb_cv RL 23 mX11_stand 11 2 := ⟨cbX11_stand, tw_ (i := 426) (by decide +kernel) rfl, ivX11_stand, slX11_stand, by decide, rfl⟩
theorem qX11_133 : gb_cv RX11 133 mX11_personAt 11 1 := ⟨cbX11_personAt, tw_ (i := 430) (by decide +kernel) rfl, ivX11_personAt, slX11_personAt, by decide, rfl⟩
theorem qX11_137 : gb_cv RX11 137 mX11_isPlace 11 1 := ⟨cbX11_isPlace, tw_ (i := 434) (by decide +kernel) rfl, ivX11_isPlace, slX11_isPlace, by decide, rfl⟩
theorem qX11_141 : gb_cv RX11 141 mX11_standsInRing 11 1 := ⟨cbX11_standsInRing, tw_ (i := 438) (by decide +kernel) rfl, ivX11_standsInRing, slX11_standsInRing, by decide, rfl⟩
theorem qL_28 : gb_cv RL 28 mX11_ribbon 11 3 := ⟨cbX11_ribbon, tw_ (i := 442) (by decide +kernel) rfl, ivX11_ribbon, slX11_ribbon, by decide, rfl⟩
theorem qX11_147 : gb_cs RX11 147 mX11_isColour 1 := ⟨cbX11_isColour, tw_ (i := 446) (by decide +kernel) rfl, svX11_isColour⟩
theorem qL_32 : gb_cv RL 32 mX11_at 11 2 := ⟨cbX11_at, tw_ (i := 450) (by decide +kernel) rfl, ivX11_at, slX11_at, by decide, rfl⟩
theorem qL_36 : gb_cv RL 36 mX11_begin 11 0 := ⟨cbX11_begin, tw_ (i := 454) (by decide +kernel) rfl, ivX11_begin, slX11_begin, by decide, rfl⟩
theorem qX11_160 : gb_cv RX11 160 mX2_restart 2 0 := ⟨cbX2_restart, tw_ (i := 458) (by decide +kernel) rfl, ivX2_restart, slX2_restart, by decide, rfl⟩
theorem qX11_163 : gb_cv RX11 163 mX2_copy 2 1 := ⟨cbX2_copy, tw_ (i := 459) (by decide +kernel) rfl, ivX2_copy, slX2_copy, by decide, rfl⟩
theorem qX2_49 : Cond.methodLink RX2 49 arraycopyName ∈ gb_LW ∧ Cond.native arraycopyName ∈ gb_LW ∧ Cond.static arraycopyName ∈ gb_LW ∧ Cond.initialized "java/lang/System" ∈ gb_LW := ⟨tw_ (i := 463) (by decide +kernel) rfl, ac_n, ac_s, iniJ10⟩
theorem qL_41 : gb_cv RL 41 mX11_end 11 0 := ⟨cbX11_end, tw_ (i := 464) (by decide +kernel) rfl, ivX11_end, slX11_end, by decide, rfl⟩
theorem qX11_167 : gb_cv RX11 167 mX2_bringToPlaces 2 1 := ⟨cbX2_bringToPlaces, tw_ (i := 468) (by decide +kernel) rfl, ivX2_bringToPlaces, slX2_bringToPlaces, by decide, rfl⟩
theorem qX11_171 : gb_cv RX11 171 mX2_callByPlaces 2 0 := ⟨cbX2_callByPlaces, tw_ (i := 472) (by decide +kernel) rfl, ivX2_callByPlaces, slX2_callByPlaces, by decide, rfl⟩
theorem qL_45 : gb_cv RL 45 mX11_pass 11 2 := ⟨cbX11_pass, tw_ (i := 473) (by decide +kernel) rfl, ivX11_pass, slX11_pass, by decide, rfl⟩
theorem qX11_177 : gb_cv RX11 177 mX11_doStep 11 1 := ⟨cbX11_doStep, tw_ (i := 477) (by decide +kernel) rfl, ivX11_doStep, slX11_doStep, by decide, rfl⟩
theorem qX11_346 : gb_cv RX11 346 mX2_take 2 1 := ⟨cbX2_take, tw_ (i := 481) (by decide +kernel) rfl, ivX2_take, slX2_take, by decide, rfl⟩
theorem qX2_55 : gb_cv RX2 55 mX2_takeWalk 2 1 := ⟨cbX2_takeWalk, tw_ (i := 485) (by decide +kernel) rfl, ivX2_takeWalk, slX2_takeWalk, by decide, rfl⟩
theorem qX2_66 : gb_cv RX2 66 mX2_girthNow 2 0 := ⟨cbX2_girthNow, tw_ (i := 489) (by decide +kernel) rfl, ivX2_girthNow, slX2_girthNow, by decide, rfl⟩
theorem qX2_59 : gb_cv RX2 59 mX2_takePass 2 2 := ⟨cbX2_takePass, tw_ (i := 496) (by decide +kernel) rfl, ivX2_takePass, slX2_takePass, by decide, rfl⟩
theorem qX11_348 : gb_cv RX11 348 mX1_lay 1 1 := ⟨cbX1_lay, tw_ (i := 500) (by decide +kernel) rfl, ivX1_lay, slX1_lay, by decide, rfl⟩
theorem qX1_43 : gb_cv RX1 43 mX1_ribbonOnTop 1 2 := ⟨cbX1_ribbonOnTop, tw_ (i := 504) (by decide +kernel) rfl, ivX1_ribbonOnTop, slX1_ribbonOnTop, by decide, rfl⟩
theorem qX1_51 : gb_cv RX1 51 mX1_markAt 1 2 := ⟨cbX1_markAt, tw_ (i := 508) (by decide +kernel) rfl, ivX1_markAt, slX1_markAt, by decide, rfl⟩
theorem qX1_48 : gb_cv RX1 48 mX1_ribbonAt 1 2 := ⟨cbX1_ribbonAt, tw_ (i := 516) (by decide +kernel) rfl, ivX1_ribbonAt, slX1_ribbonAt, by decide, rfl⟩
theorem qX11_350 : gb_cv RX11 350 mX2_unmark 2 0 := ⟨cbX2_unmark, tw_ (i := 520) (by decide +kernel) rfl, ivX2_unmark, slX2_unmark, by decide, rfl⟩
theorem qX11_353 : gb_cv RX11 353 mX9_add 9 1 := ⟨cbX9_add, tw_ (i := 521) (by decide +kernel) rfl, ivX9_add, slX9_add, by decide, rfl⟩
theorem qL_49 : gb_cv RL 49 mX11_walk 11 1 := ⟨cbX11_walk, tw_ (i := 525) (by decide +kernel) rfl, ivX11_walk, slX11_walk, by decide, rfl⟩
theorem qL_53 : gb_cv RL 53 mX11_girth 11 0 := ⟨cbX11_girth, tw_ (i := 529) (by decide +kernel) rfl, ivX11_girth, slX11_girth, by decide, rfl⟩
theorem qX11_181 : gb_cv RX11 181 mX2_girthNow 2 0 := ⟨cbX2_girthNow, tw_ (i := 533) (by decide +kernel) rfl, ivX2_girthNow, slX2_girthNow, by decide, rfl⟩
theorem qL_57 : gb_cv RL 57 mX11_step 11 1 := ⟨cbX11_step, tw_ (i := 534) (by decide +kernel) rfl, ivX11_step, slX11_step, by decide, rfl⟩
theorem qX11_185 : gb_cv RX11 185 mX9_codeAt 9 1 := ⟨cbX9_codeAt, tw_ (i := 538) (by decide +kernel) rfl, ivX9_codeAt, slX9_codeAt, by decide, rfl⟩
theorem qL_61 : gb_cv RL 61 mX11_rows 11 0 := ⟨cbX11_rows, tw_ (i := 542) (by decide +kernel) rfl, ivX11_rows, slX11_rows, by decide, rfl⟩
theorem qL_65 : gb_cv RL 65 mX11_cloth 11 3 := ⟨cbX11_cloth, tw_ (i := 546) (by decide +kernel) rfl, ivX11_cloth, slX11_cloth, by decide, rfl⟩
theorem qX11_191 : gb_cv RX11 191 mX1_has 1 2 := ⟨cbX1_has, tw_ (i := 550) (by decide +kernel) rfl, ivX1_has, slX1_has, by decide, rfl⟩
theorem qX11_195 : gb_cv RX11 195 mX1_ribbonAt 1 2 := ⟨cbX1_ribbonAt, tw_ (i := 554) (by decide +kernel) rfl, ivX1_ribbonAt, slX1_ribbonAt, by decide, rfl⟩
theorem qX11_199 : gb_cv RX11 199 mX1_markAt 1 2 := ⟨cbX1_markAt, tw_ (i := 555) (by decide +kernel) rfl, ivX1_markAt, slX1_markAt, by decide, rfl⟩
theorem qX11_202 : gb_cv RX11 202 mX1_topAt 1 2 := ⟨cbX1_topAt, tw_ (i := 556) (by decide +kernel) rfl, ivX1_topAt, slX1_topAt, by decide, rfl⟩
theorem qX1_60 : gb_cv RX1 60 mX1_topRibbon 1 2 := ⟨cbX1_topRibbon, tw_ (i := 560) (by decide +kernel) rfl, ivX1_topRibbon, slX1_topRibbon, by decide, rfl⟩
theorem qL_69 : gb_cv RL 69 mX11_beat 11 0 := ⟨cbX11_beat, tw_ (i := 564) (by decide +kernel) rfl, ivX11_beat, slX11_beat, by decide, rfl⟩
theorem qX11_205 : gb_cv RX11 205 mX1_leastBeat 1 0 := ⟨cbX1_leastBeat, tw_ (i := 568) (by decide +kernel) rfl, ivX1_leastBeat, slX1_leastBeat, by decide, rfl⟩
theorem qX1_63 : gb_cv RX1 63 mX1_beatsBy 1 1 := ⟨cbX1_beatsBy, tw_ (i := 572) (by decide +kernel) rfl, ivX1_beatsBy, slX1_beatsBy, by decide, rfl⟩
theorem qX1_67 : gb_cv RX1 67 mX1_areLike 1 2 := ⟨cbX1_areLike, tw_ (i := 576) (by decide +kernel) rfl, ivX1_areLike, slX1_areLike, by decide, rfl⟩
theorem qX1_71 : gb_cv RX1 71 mX1_topAt 1 2 := ⟨cbX1_topAt, tw_ (i := 580) (by decide +kernel) rfl, ivX1_topAt, slX1_topAt, by decide, rfl⟩
theorem qL_73 : gb_cv RL 73 mX11_picture 11 3 := ⟨cbX11_picture, tw_ (i := 581) (by decide +kernel) rfl, ivX11_picture, slX11_picture, by decide, rfl⟩
theorem qX11_208 : gb_cv RX11 208 mX6_tell 6 3 := ⟨cbX6_tell, tw_ (i := 585) (by decide +kernel) rfl, ivX6_tell, slX6_tell, by decide, rfl⟩
theorem qL_77 : gb_cv RL 77 mX11_pictureless 11 0 := ⟨cbX11_pictureless, tw_ (i := 589) (by decide +kernel) rfl, ivX11_pictureless, slX11_pictureless, by decide, rfl⟩
theorem qL_81 : gb_cv RL 81 mX11_wrong 11 0 := ⟨cbX11_wrong, tw_ (i := 593) (by decide +kernel) rfl, ivX11_wrong, slX11_wrong, by decide, rfl⟩
theorem qX11_213 : gb_cv RX11 213 mX6_wrongOn 6 1 := ⟨cbX6_wrongOn, tw_ (i := 597) (by decide +kernel) rfl, ivX6_wrongOn, slX6_wrongOn, by decide, rfl⟩
theorem qX6_34 : gb_cv RX6 34 mX1_has 1 2 := ⟨cbX1_has, tw_ (i := 601) (by decide +kernel) rfl, ivX1_has, slX1_has, by decide, rfl⟩
theorem qX6_40 : gb_cv RX6 40 mX1_topAt 1 2 := ⟨cbX1_topAt, tw_ (i := 602) (by decide +kernel) rfl, ivX1_topAt, slX1_topAt, by decide, rfl⟩
theorem qL_85 : gb_cv RL 85 mX11_colours 11 2 := ⟨cbX11_colours, tw_ (i := 603) (by decide +kernel) rfl, ivX11_colours, slX11_colours, by decide, rfl⟩
theorem qX11_217 : gb_cv RX11 217 mX6_choose 6 2 := ⟨cbX6_choose, tw_ (i := 607) (by decide +kernel) rfl, ivX6_choose, slX6_choose, by decide, rfl⟩
theorem qX6_44 : gb_cs RX6 44 mJ7_fill_53178 2 := ⟨cbJ7_fill_53178, tw_ (i := 611) (by decide +kernel) rfl, svJ7_fill_53178⟩
theorem qX6_50 : gb_cv RX6 50 mX1_topRibbon 1 2 := ⟨cbX1_topRibbon, tw_ (i := 612) (by decide +kernel) rfl, ivX1_topRibbon, slX1_topRibbon, by decide, rfl⟩
theorem qX6_56 : gb_cv RX6 56 mX6_mostAsked 6 2 := ⟨cbX6_mostAsked, tw_ (i := 613) (by decide +kernel) rfl, ivX6_mostAsked, slX6_mostAsked, by decide, rfl⟩
theorem qL_89 : gb_cv RL 89 mX11_form 11 2 := ⟨cbX11_form, tw_ (i := 617) (by decide +kernel) rfl, ivX11_form, slX11_form, by decide, rfl⟩
theorem qX11_227 : gb_cv RX11 227 mX11_figureOrDance 11 1 := ⟨cbX11_figureOrDance, tw_ (i := 621) (by decide +kernel) rfl, ivX11_figureOrDance, slX11_figureOrDance, by decide, rfl⟩
theorem qX11_264 : gb_cv RX11 264 mX7_figureAt 7 1 := ⟨cbX7_figureAt, tw_ (i := 625) (by decide +kernel) rfl, ivX7_figureAt, slX7_figureAt, by decide, rfl⟩
theorem qX11_231 : gb_cv RX11 231 mX3_cutDown 3 2 := ⟨cbX3_cutDown, tw_ (i := 629) (by decide +kernel) rfl, ivX3_cutDown, slX3_cutDown, by decide, rfl⟩
theorem qX3_34 : gb_cs RX3 34 mJ7_fill_53178 2 := ⟨cbJ7_fill_53178, tw_ (i := 633) (by decide +kernel) rfl, svJ7_fill_53178⟩
theorem qX3_46 : gb_cs RX3 46 mJ9_floorMod_7cf53 2 := ⟨cbJ9_floorMod_7cf53, tw_ (i := 634) (by decide +kernel) rfl, svJ9_floorMod_7cf53⟩
theorem qX3_52 : gb_cv RX3 52 mX3_meet 3 3 := ⟨cbX3_meet, tw_ (i := 637) (by decide +kernel) rfl, ivX3_meet, slX3_meet, by decide, rfl⟩
theorem qX3_56 : gb_cv RX3 56 mX3_linkForward 3 0 := ⟨cbX3_linkForward, tw_ (i := 643) (by decide +kernel) rfl, ivX3_linkForward, slX3_linkForward, by decide, rfl⟩
theorem qX3_59 : gb_cv RX3 59 mX3_putInOrder 3 1 := ⟨cbX3_putInOrder, tw_ (i := 647) (by decide +kernel) rfl, ivX3_putInOrder, slX3_putInOrder, by decide, rfl⟩
theorem qX3_69 : gb_cv RX3 69 mX3_leastFree 3 1 := ⟨cbX3_leastFree, tw_ (i := 651) (by decide +kernel) rfl, ivX3_leastFree, slX3_leastFree, by decide, rfl⟩
theorem qL_93 : gb_cv RL 93 mX11_akin 11 2 := ⟨cbX11_akin, tw_ (i := 655) (by decide +kernel) rfl, ivX11_akin, slX11_akin, by decide, rfl⟩
theorem qX11_242 : gb_cv RX11 242 mX3_isLike 3 1 := ⟨cbX3_isLike, tw_ (i := 659) (by decide +kernel) rfl, ivX3_isLike, slX3_isLike, by decide, rfl⟩
theorem qL_97 : gb_cv RL 97 mX11_feed 11 2 := ⟨cbX11_feed, tw_ (i := 663) (by decide +kernel) rfl, ivX11_feed, slX11_feed, by decide, rfl⟩
theorem qX11_246 : gb_cv RX11 246 mX7_take 7 2 := ⟨cbX7_take, tw_ (i := 667) (by decide +kernel) rfl, ivX7_take, slX7_take, by decide, rfl⟩
theorem qL_101 : gb_cv RL 101 mX11_figure 11 0 := ⟨cbX11_figure, tw_ (i := 671) (by decide +kernel) rfl, ivX11_figure, slX11_figure, by decide, rfl⟩
theorem qX11_255 : gb_cv RX11 255 mX7_parse 7 0 := ⟨cbX7_parse, tw_ (i := 675) (by decide +kernel) rfl, ivX7_parse, slX7_parse, by decide, rfl⟩
theorem qX7_49 : gb_cv RX7 49 mX9_clear 9 0 := ⟨cbX9_clear, tw_ (i := 679) (by decide +kernel) rfl, ivX9_clear, slX9_clear, by decide, rfl⟩
theorem qX7_52 : gb_cv RX7 52 mX7_open 7 0 := ⟨cbX7_open, tw_ (i := 680) (by decide +kernel) rfl, ivX7_open, slX7_open, by decide, rfl⟩
theorem qX7_56 : gb_cv RX7 56 mX7_close 7 2 := ⟨cbX7_close, tw_ (i := 684) (by decide +kernel) rfl, ivX7_close, slX7_close, by decide, rfl⟩
theorem qX7_67 : gb_cv RX7 67 mX7_signAt 7 1 := ⟨cbX7_signAt, tw_ (i := 688) (by decide +kernel) rfl, ivX7_signAt, slX7_signAt, by decide, rfl⟩
theorem qX7_70 : gb_cv RX7 70 mX7_undoFrom 7 1 := ⟨cbX7_undoFrom, tw_ (i := 692) (by decide +kernel) rfl, ivX7_undoFrom, slX7_undoFrom, by decide, rfl⟩
theorem qX7_73 : gb_cv RX7 73 mX7_repeatFrom 7 2 := ⟨cbX7_repeatFrom, tw_ (i := 696) (by decide +kernel) rfl, ivX7_repeatFrom, slX7_repeatFrom, by decide, rfl⟩
theorem qX7_77 : gb_cv RX7 77 mX7_put 7 1 := ⟨cbX7_put, tw_ (i := 700) (by decide +kernel) rfl, ivX7_put, slX7_put, by decide, rfl⟩
theorem qX7_88 : gb_cv RX7 88 mX9_add 9 1 := ⟨cbX9_add, tw_ (i := 704) (by decide +kernel) rfl, ivX9_add, slX9_add, by decide, rfl⟩
theorem qX7_60 : gb_cv RX7 60 mX7_single 7 1 := ⟨cbX7_single, tw_ (i := 705) (by decide +kernel) rfl, ivX7_single, slX7_single, by decide, rfl⟩
theorem qX7_80 : gb_cv RX7 80 mX7_figureAt 7 1 := ⟨cbX7_figureAt, tw_ (i := 709) (by decide +kernel) rfl, ivX7_figureAt, slX7_figureAt, by decide, rfl⟩
theorem qX7_84 : gb_cv RX7 84 mX7_putAll 7 1 := ⟨cbX7_putAll, tw_ (i := 710) (by decide +kernel) rfl, ivX7_putAll, slX7_putAll, by decide, rfl⟩
theorem qX11_261 : gb_cv RX11 261 mX7_keep 7 0 := ⟨cbX7_keep, tw_ (i := 714) (by decide +kernel) rfl, ivX7_keep, slX7_keep, by decide, rfl⟩
theorem qX7_45 : gb_cv RX7 45 mX9_copied 9 0 := ⟨cbX9_copied, tw_ (i := 718) (by decide +kernel) rfl, ivX9_copied, slX9_copied, by decide, rfl⟩
theorem qX9_19 : gb_ci RX9 19 mX9_init 1 := ⟨cbX9_init, tw_ (i := 723) (by decide +kernel) rfl, ivX9_init, rfl, rfl⟩
theorem qX9_22 : Cond.methodLink RX9 22 arraycopyName ∈ gb_LW ∧ Cond.native arraycopyName ∈ gb_LW ∧ Cond.static arraycopyName ∈ gb_LW ∧ Cond.initialized "java/lang/System" ∈ gb_LW := ⟨tw_ (i := 724) (by decide +kernel) rfl, ac_n, ac_s, iniJ10⟩
theorem qL_105 : gb_cv RL 105 mX11_told 11 2 := ⟨cbX11_told, tw_ (i := 725) (by decide +kernel) rfl, ivX11_told, slX11_told, by decide, rfl⟩
theorem qL_109 : gb_cv RL 109 mX11_dance 11 1 := ⟨cbX11_dance, tw_ (i := 729) (by decide +kernel) rfl, ivX11_dance, slX11_dance, by decide, rfl⟩
theorem qL_113 : gb_cv RL 113 mX11_right 11 1 := ⟨cbX11_right, tw_ (i := 733) (by decide +kernel) rfl, ivX11_right, slX11_right, by decide, rfl⟩
theorem qX11_270 : gb_cv RX11 270 mX11_weavesOn 11 3 := ⟨cbX11_weavesOn, tw_ (i := 737) (by decide +kernel) rfl, ivX11_weavesOn, slX11_weavesOn, by decide, rfl⟩
theorem qX11_360 : gb_cv RX11 360 mX11_weaves 11 2 := ⟨cbX11_weaves, tw_ (i := 741) (by decide +kernel) rfl, ivX11_weaves, slX11_weaves, by decide, rfl⟩
theorem qX11_356 : gb_cv RX11 356 mX1_isRowOf 1 1 := ⟨cbX1_isRowOf, tw_ (i := 745) (by decide +kernel) rfl, ivX1_isRowOf, slX1_isRowOf, by decide, rfl⟩
theorem qL_117 : gb_cv RL 117 mX11_slips 11 2 := ⟨cbX11_slips, tw_ (i := 749) (by decide +kernel) rfl, ivX11_slips, slX11_slips, by decide, rfl⟩
theorem qX11_274 : gb_cv RX11 274 mX11_explained 11 2 := ⟨cbX11_explained, tw_ (i := 753) (by decide +kernel) rfl, ivX11_explained, slX11_explained, by decide, rfl⟩
theorem qX11_365 : gb_cv RX11 365 mX9_walksIn 9 0 := ⟨cbX9_walksIn, tw_ (i := 757) (by decide +kernel) rfl, ivX9_walksIn, slX9_walksIn, by decide, rfl⟩
theorem qX11_368 : gb_cv RX11 368 mX11_weavesSlipped 11 3 := ⟨cbX11_weavesSlipped, tw_ (i := 761) (by decide +kernel) rfl, ivX11_weavesSlipped, slX11_weavesSlipped, by decide, rfl⟩
theorem qL_121 : gb_cv RL 121 mX11_fewest 11 2 := ⟨cbX11_fewest, tw_ (i := 765) (by decide +kernel) rfl, ivX11_fewest, slX11_fewest, by decide, rfl⟩
theorem qX11_278 : gb_cv RX11 278 mX11_tapeAt 11 1 := ⟨cbX11_tapeAt, tw_ (i := 769) (by decide +kernel) rfl, ivX11_tapeAt, slX11_tapeAt, by decide, rfl⟩
theorem qX11_289 : gb_cv RX11 289 mX4_ask 4 2 := ⟨cbX4_ask, tw_ (i := 773) (by decide +kernel) rfl, ivX4_ask, slX4_ask, by decide, rfl⟩
theorem qX4_28 : gb_cs RX4 28 mJ7_fill_53178 2 := ⟨cbJ7_fill_53178, tw_ (i := 777) (by decide +kernel) rfl, svJ7_fill_53178⟩
theorem qX11_293 : gb_cv RX11 293 mX4_search 4 1 := ⟨cbX4_search, tw_ (i := 778) (by decide +kernel) rfl, ivX4_search, slX4_search, by decide, rfl⟩
theorem qX4_42 : gb_cv RX4 42 mX4_passesLeft 4 1 := ⟨cbX4_passesLeft, tw_ (i := 782) (by decide +kernel) rfl, ivX4_passesLeft, slX4_passesLeft, by decide, rfl⟩
theorem qX4_57 : gb_cv RX4 57 mX4_settleWays 4 1 := ⟨cbX4_settleWays, tw_ (i := 786) (by decide +kernel) rfl, ivX4_settleWays, slX4_settleWays, by decide, rfl⟩
theorem qX4_61 : gb_cs RX4 61 mJ9_floorDiv_7cf53 2 := ⟨cbJ9_floorDiv_7cf53, tw_ (i := 790) (by decide +kernel) rfl, svJ9_floorDiv_7cf53⟩
theorem qX4_66 : gb_cs RX4 66 mJ9_abs_0f7a4 1 := ⟨cbJ9_abs_0f7a4, tw_ (i := 793) (by decide +kernel) rfl, svJ9_abs_0f7a4⟩
theorem qX4_46 : gb_cv RX4 46 mX4_nearer 4 2 := ⟨cbX4_nearer, tw_ (i := 796) (by decide +kernel) rfl, ivX4_nearer, slX4_nearer, by decide, rfl⟩
theorem qX4_50 : gb_cv RX4 50 mX4_swap 4 2 := ⟨cbX4_swap, tw_ (i := 800) (by decide +kernel) rfl, ivX4_swap, slX4_swap, by decide, rfl⟩
theorem qL_125 : gb_cv RL 125 mX11_set 11 2 := ⟨cbX11_set, tw_ (i := 805) (by decide +kernel) rfl, ivX11_set, slX11_set, by decide, rfl⟩
theorem qX11_300 : gb_cv RX11 300 mX11_seatPeople 11 1 := ⟨cbX11_seatPeople, tw_ (i := 809) (by decide +kernel) rfl, ivX11_seatPeople, slX11_seatPeople, by decide, rfl⟩
theorem qX11_372 : gb_cs RX11 372 mJ6_bitCount_0f7a4 1 := ⟨cbJ6_bitCount_0f7a4, tw_ (i := 813) (by decide +kernel) rfl, svJ6_bitCount_0f7a4⟩
theorem qX11_377 : gb_cv RX11 377 mX8_clear 8 0 := ⟨cbX8_clear, tw_ (i := 819) (by decide +kernel) rfl, ivX8_clear, slX8_clear, by decide, rfl⟩
theorem qX11_378 : gb_cv RX11 378 mX8_add 8 1 := ⟨cbX8_add, tw_ (i := 823) (by decide +kernel) rfl, ivX8_add, slX8_add, by decide, rfl⟩
theorem qX11_381 : gb_cv RX11 381 mX8_seatAll 8 0 := ⟨cbX8_seatAll, tw_ (i := 827) (by decide +kernel) rfl, ivX8_seatAll, slX8_seatAll, by decide, rfl⟩
theorem qX8_49 : gb_cv RX8 49 mX8_seatFrom 8 3 := ⟨cbX8_seatFrom, tw_ (i := 832) (by decide +kernel) rfl, ivX8_seatFrom, slX8_seatFrom, by decide, rfl⟩
theorem qX8_53 : gb_cv RX8 53 mX8_apart 8 2 := ⟨cbX8_apart, tw_ (i := 836) (by decide +kernel) rfl, ivX8_apart, slX8_apart, by decide, rfl⟩
theorem qX8_63 : gb_cs RX8 63 mJ9_abs_0f7a4 1 := ⟨cbJ9_abs_0f7a4, tw_ (i := 840) (by decide +kernel) rfl, svJ9_abs_0f7a4⟩
theorem qX8_57 : Cond.methodLink RX8 57 arraycopyName ∈ gb_LW ∧ Cond.native arraycopyName ∈ gb_LW ∧ Cond.static arraycopyName ∈ gb_LW ∧ Cond.initialized "java/lang/System" ∈ gb_LW := ⟨tw_ (i := 841) (by decide +kernel) rfl, ac_n, ac_s, iniJ10⟩
theorem qX11_306 : gb_cv RX11 306 mX8_numberAt 8 1 := ⟨cbX8_numberAt, tw_ (i := 842) (by decide +kernel) rfl, ivX8_numberAt, slX8_numberAt, by decide, rfl⟩
theorem qL_129 : gb_cv RL 129 mX11_spent 11 2 := ⟨cbX11_spent, tw_ (i := 846) (by decide +kernel) rfl, ivX11_spent, slX11_spent, by decide, rfl⟩
theorem qX11_309 : gb_cv RX11 309 mX8_spentIn 8 1 := ⟨cbX8_spentIn, tw_ (i := 850) (by decide +kernel) rfl, ivX8_spentIn, slX8_spentIn, by decide, rfl⟩
theorem qX8_77 : gb_cv RX8 77 mX8_greatestPace 8 0 := ⟨cbX8_greatestPace, tw_ (i := 854) (by decide +kernel) rfl, ivX8_greatestPace, slX8_greatestPace, by decide, rfl⟩
theorem qX8_88 : gb_cs RX8 88 mJ9_max_7cf53 2 := ⟨cbJ9_max_7cf53, tw_ (i := 858) (by decide +kernel) rfl, svJ9_max_7cf53⟩
theorem qX8_81 : gb_cv RX8 81 mX8_turn 8 1 := ⟨cbX8_turn, tw_ (i := 861) (by decide +kernel) rfl, ivX8_turn, slX8_turn, by decide, rfl⟩
theorem qX8_85 : gb_cv RX8 85 mX8_change 8 1 := ⟨cbX8_change, tw_ (i := 865) (by decide +kernel) rfl, ivX8_change, slX8_change, by decide, rfl⟩
theorem qL_133 : gb_cv RL 133 mX11_act 11 3 := ⟨cbX11_act, tw_ (i := 870) (by decide +kernel) rfl, ivX11_act, slX11_act, by decide, rfl⟩
theorem qX11_316 : gb_cv RX11 316 mX0_perform 0 3 := ⟨cbX0_perform, tw_ (i := 874) (by decide +kernel) rfl, ivX0_perform, slX0_perform, by decide, rfl⟩
theorem qX0_24 : gb_cv RX0 24 mX0_ask 0 5 := ⟨cbX0_ask, tw_ (i := 878) (by decide +kernel) rfl, ivX0_ask, slX0_ask, by decide, rfl⟩
theorem qX0_34 : gb_cv RX0 34 mX0_note 0 1 := ⟨cbX0_note, tw_ (i := 886) (by decide +kernel) rfl, ivX0_note, slX0_note, by decide, rfl⟩
theorem qX0_38 : gb_cv RX0 38 mX0_run 0 5 := ⟨cbX0_run, tw_ (i := 890) (by decide +kernel) rfl, ivX0_run, slX0_run, by decide, rfl⟩
theorem qL_137 : gb_cv RL 137 mX11_trace 11 1 := ⟨cbX11_trace, tw_ (i := 894) (by decide +kernel) rfl, ivX11_trace, slX11_trace, by decide, rfl⟩
theorem qX11_320 : gb_cv RX11 320 mX0_traced 0 1 := ⟨cbX0_traced, tw_ (i := 898) (by decide +kernel) rfl, ivX0_traced, slX0_traced, by decide, rfl⟩
theorem qL_141 : gb_cv RL 141 mX11_taken 11 2 := ⟨cbX11_taken, tw_ (i := 902) (by decide +kernel) rfl, ivX11_taken, slX11_taken, by decide, rfl⟩
theorem qX11_323 : gb_cv RX11 323 mX5_isOf 5 1 := ⟨cbX5_isOf, tw_ (i := 906) (by decide +kernel) rfl, ivX5_isOf, slX5_isOf, by decide, rfl⟩
theorem qL_145 : gb_cv RL 145 mX11_count 11 1 := ⟨cbX11_count, tw_ (i := 911) (by decide +kernel) rfl, ivX11_count, slX11_count, by decide, rfl⟩
theorem qL_149 : gb_cv RL 149 mX11_tape 11 3 := ⟨cbX11_tape, tw_ (i := 915) (by decide +kernel) rfl, ivX11_tape, slX11_tape, by decide, rfl⟩
theorem qX11_326 : gb_cv RX11 326 mX10_empty 10 0 := ⟨cbX10_empty, tw_ (i := 919) (by decide +kernel) rfl, ivX10_empty, slX10_empty, by decide, rfl⟩
theorem qX11_329 : gb_cv RX11 329 mX10_become 10 2 := ⟨cbX10_become, tw_ (i := 923) (by decide +kernel) rfl, ivX10_become, slX10_become, by decide, rfl⟩
theorem qX10_22 : gb_cs RX10 22 mJ7_fill_53178 2 := ⟨cbJ7_fill_53178, tw_ (i := 927) (by decide +kernel) rfl, svJ7_fill_53178⟩
theorem qL_153 : gb_cv RL 153 mX11_item 11 3 := ⟨cbX11_item, tw_ (i := 928) (by decide +kernel) rfl, ivX11_item, slX11_item, by decide, rfl⟩
theorem qX11_333 : gb_cv RX11 333 mX10_cut 10 1 := ⟨cbX10_cut, tw_ (i := 932) (by decide +kernel) rfl, ivX10_cut, slX10_cut, by decide, rfl⟩
theorem qL_157 : gb_cv RL 157 mX11_read 11 2 := ⟨cbX11_read, tw_ (i := 936) (by decide +kernel) rfl, ivX11_read, slX11_read, by decide, rfl⟩
theorem qL_161 : gb_cv RL 161 mX11_shift 11 5 := ⟨cbX11_shift, tw_ (i := 941) (by decide +kernel) rfl, ivX11_shift, slX11_shift, by decide, rfl⟩
theorem qX11_337 : gb_cv RX11 337 mX10_holds 10 2 := ⟨cbX10_holds, tw_ (i := 945) (by decide +kernel) rfl, ivX10_holds, slX10_holds, by decide, rfl⟩
theorem qX11_340 : Cond.methodLink RX11 340 arraycopyName ∈ gb_LW ∧ Cond.native arraycopyName ∈ gb_LW ∧ Cond.static arraycopyName ∈ gb_LW ∧ Cond.initialized "java/lang/System" ∈ gb_LW := ⟨tw_ (i := 949) (by decide +kernel) rfl, ac_n, ac_s, iniJ10⟩
theorem qL_12 : gb_ci RL 12 mX12_init 0 := ⟨cbX12_init, tw_ (i := 952) (by decide +kernel) rfl, ivX12_init, rfl, rfl⟩
theorem qX12_1 : Cond.methodLink RX12 1 objectInit ∈ gb_LW ∧ Cond.instanceMethod objectInit ∈ gb_LW ∧ Cond.code objectInit ⟨#[0xb1]⟩ 1 none ∈ gb_LW := ⟨tw_ (i := 955) (by decide +kernel) rfl, ob_i, ob_c⟩
theorem qL_17 : gb_cv RL 17 mX12_person 12 3 := ⟨cbX12_person, tw_ (i := 1140) (by decide +kernel) rfl, ivX12_person, slX12_person, by decide, rfl⟩
theorem qX12_195 : gb_cv RX12 195 mX12_in 12 3 := ⟨cbX12_in, tw_ (i := 1144) (by decide +kernel) rfl, ivX12_in, slX12_in, by decide, rfl⟩
theorem qL_22 : gb_cv RL 22 mX12_ring 12 1 := ⟨cbX12_ring, tw_ (i := 1148) (by decide +kernel) rfl, ivX12_ring, slX12_ring, by decide, rfl⟩
theorem qL_27 : gb_cv RL 27 mX12_stand 12 2 := ⟨cbX12_stand, tw_ (i := 1152) (by decide +kernel) rfl, ivX12_stand, slX12_stand, by decide, rfl⟩
theorem qX12_199 : gb_cv RX12 199 mX12_isPlace 12 1 := ⟨cbX12_isPlace, tw_ (i := 1156) (by decide +kernel) rfl, ivX12_isPlace, slX12_isPlace, by decide, rfl⟩
theorem qX12_203 : gb_cv RX12 203 mX12_isPerson 12 1 := ⟨cbX12_isPerson, tw_ (i := 1160) (by decide +kernel) rfl, ivX12_isPerson, slX12_isPerson, by decide, rfl⟩
theorem qL_31 : gb_cv RL 31 mX12_ribbon 12 3 := ⟨cbX12_ribbon, tw_ (i := 1164) (by decide +kernel) rfl, ivX12_ribbon, slX12_ribbon, by decide, rfl⟩
theorem qL_35 : gb_cv RL 35 mX12_at 12 2 := ⟨cbX12_at, tw_ (i := 1169) (by decide +kernel) rfl, ivX12_at, slX12_at, by decide, rfl⟩
theorem qL_40 : gb_cv RL 40 mX12_begin 12 0 := ⟨cbX12_begin, tw_ (i := 1173) (by decide +kernel) rfl, ivX12_begin, slX12_begin, by decide, rfl⟩
theorem qL_44 : gb_cv RL 44 mX12_end 12 0 := ⟨cbX12_end, tw_ (i := 1177) (by decide +kernel) rfl, ivX12_end, slX12_end, by decide, rfl⟩
theorem qL_56 : gb_cv RL 56 mX12_girth 12 0 := ⟨cbX12_girth, tw_ (i := 1181) (by decide +kernel) rfl, ivX12_girth, slX12_girth, by decide, rfl⟩
theorem qL_48 : gb_cv RL 48 mX12_pass 12 2 := ⟨cbX12_pass, tw_ (i := 1185) (by decide +kernel) rfl, ivX12_pass, slX12_pass, by decide, rfl⟩
theorem qX12_207 : gb_cv RX12 207 mX12_after 12 1 := ⟨cbX12_after, tw_ (i := 1189) (by decide +kernel) rfl, ivX12_after, slX12_after, by decide, rfl⟩
theorem qL_52 : gb_cv RL 52 mX12_walk 12 1 := ⟨cbX12_walk, tw_ (i := 1193) (by decide +kernel) rfl, ivX12_walk, slX12_walk, by decide, rfl⟩
theorem qX12_211 : gb_cv RX12 211 mX12_girth 12 0 := ⟨cbX12_girth, tw_ (i := 1197) (by decide +kernel) rfl, ivX12_girth, slX12_girth, by decide, rfl⟩
theorem qX12_215 : gb_cv RX12 215 mX12_turn 12 2 := ⟨cbX12_turn, tw_ (i := 1198) (by decide +kernel) rfl, ivX12_turn, slX12_turn, by decide, rfl⟩
theorem qL_60 : gb_cv RL 60 mX12_step 12 1 := ⟨cbX12_step, tw_ (i := 1202) (by decide +kernel) rfl, ivX12_step, slX12_step, by decide, rfl⟩
theorem qL_64 : gb_cv RL 64 mX12_rows 12 0 := ⟨cbX12_rows, tw_ (i := 1206) (by decide +kernel) rfl, ivX12_rows, slX12_rows, by decide, rfl⟩
theorem qL_68 : gb_cv RL 68 mX12_cloth 12 3 := ⟨cbX12_cloth, tw_ (i := 1210) (by decide +kernel) rfl, ivX12_cloth, slX12_cloth, by decide, rfl⟩
theorem qX12_222 : gb_cv RX12 222 mX12_topRibbon 12 2 := ⟨cbX12_topRibbon, tw_ (i := 1214) (by decide +kernel) rfl, ivX12_topRibbon, slX12_topRibbon, by decide, rfl⟩
theorem qX12_219 : gb_cv RX12 219 mX12_ahead 12 1 := ⟨cbX12_ahead, tw_ (i := 1218) (by decide +kernel) rfl, ivX12_ahead, slX12_ahead, by decide, rfl⟩
theorem qL_72 : gb_cv RL 72 mX12_beat 12 0 := ⟨cbX12_beat, tw_ (i := 1222) (by decide +kernel) rfl, ivX12_beat, slX12_beat, by decide, rfl⟩
theorem qX12_226 : gb_cv RX12 226 mX12_areLike 12 2 := ⟨cbX12_areLike, tw_ (i := 1226) (by decide +kernel) rfl, ivX12_areLike, slX12_areLike, by decide, rfl⟩
theorem qL_76 : gb_cv RL 76 mX12_picture 12 3 := ⟨cbX12_picture, tw_ (i := 1230) (by decide +kernel) rfl, ivX12_picture, slX12_picture, by decide, rfl⟩
theorem qL_80 : gb_cv RL 80 mX12_pictureless 12 0 := ⟨cbX12_pictureless, tw_ (i := 1234) (by decide +kernel) rfl, ivX12_pictureless, slX12_pictureless, by decide, rfl⟩
theorem qL_84 : gb_cv RL 84 mX12_wrong 12 0 := ⟨cbX12_wrong, tw_ (i := 1238) (by decide +kernel) rfl, ivX12_wrong, slX12_wrong, by decide, rfl⟩
theorem qX12_230 : gb_cv RX12 230 mX12_wrongWith 12 1 := ⟨cbX12_wrongWith, tw_ (i := 1242) (by decide +kernel) rfl, ivX12_wrongWith, slX12_wrongWith, by decide, rfl⟩
theorem qL_88 : gb_cv RL 88 mX12_colours 12 2 := ⟨cbX12_colours, tw_ (i := 1246) (by decide +kernel) rfl, ivX12_colours, slX12_colours, by decide, rfl⟩
theorem qL_100 : gb_cv RL 100 mX12_feed 12 2 := ⟨cbX12_feed, tw_ (i := 1250) (by decide +kernel) rfl, ivX12_feed, slX12_feed, by decide, rfl⟩
theorem qL_104 : gb_cv RL 104 mX12_figure 12 0 := ⟨cbX12_figure, tw_ (i := 1254) (by decide +kernel) rfl, ivX12_figure, slX12_figure, by decide, rfl⟩
theorem qX12_254 : gb_cv RX12 254 mX12_reads 12 0 := ⟨cbX12_reads, tw_ (i := 1258) (by decide +kernel) rfl, ivX12_reads, slX12_reads, by decide, rfl⟩
theorem qX12_241 : gb_cv RX12 241 mX12_next 12 0 := ⟨cbX12_next, tw_ (i := 1262) (by decide +kernel) rfl, ivX12_next, slX12_next, by decide, rfl⟩
theorem qX12_237 : gb_cv RX12 237 mX12_add 12 1 := ⟨cbX12_add, tw_ (i := 1266) (by decide +kernel) rfl, ivX12_add, slX12_add, by decide, rfl⟩
theorem qX12_244 : gb_cv RX12 244 mX12_isFigure 12 1 := ⟨cbX12_isFigure, tw_ (i := 1270) (by decide +kernel) rfl, ivX12_isFigure, slX12_isFigure, by decide, rfl⟩
theorem qX12_247 : gb_cv RX12 247 mX12_repeat 12 2 := ⟨cbX12_repeat, tw_ (i := 1274) (by decide +kernel) rfl, ivX12_repeat, slX12_repeat, by decide, rfl⟩
theorem qX12_251 : gb_cv RX12 251 mX12_undo 12 1 := ⟨cbX12_undo, tw_ (i := 1278) (by decide +kernel) rfl, ivX12_undo, slX12_undo, by decide, rfl⟩
theorem qX12_234 : gb_cv RX12 234 mX12_undoing 12 1 := ⟨cbX12_undoing, tw_ (i := 1282) (by decide +kernel) rfl, ivX12_undoing, slX12_undoing, by decide, rfl⟩
theorem qL_108 : gb_cv RL 108 mX12_told 12 2 := ⟨cbX12_told, tw_ (i := 1286) (by decide +kernel) rfl, ivX12_told, slX12_told, by decide, rfl⟩
theorem qL_112 : gb_cv RL 112 mX12_dance 12 1 := ⟨cbX12_dance, tw_ (i := 1290) (by decide +kernel) rfl, ivX12_dance, slX12_dance, by decide, rfl⟩
theorem qX12_258 : gb_cv RX12 258 mX12_walk 12 1 := ⟨cbX12_walk, tw_ (i := 1294) (by decide +kernel) rfl, ivX12_walk, slX12_walk, by decide, rfl⟩
theorem qX12_261 : gb_cv RX12 261 mX12_pass 12 2 := ⟨cbX12_pass, tw_ (i := 1295) (by decide +kernel) rfl, ivX12_pass, slX12_pass, by decide, rfl⟩
theorem qL_92 : gb_cv RL 92 mX12_form 12 2 := ⟨cbX12_form, tw_ (i := 1296) (by decide +kernel) rfl, ivX12_form, slX12_form, by decide, rfl⟩
theorem qX12_282 : gb_cv RX12 282 mX12_findForm 12 1 := ⟨cbX12_findForm, tw_ (i := 1300) (by decide +kernel) rfl, ivX12_findForm, slX12_findForm, by decide, rfl⟩
theorem qX12_267 : gb_cv RX12 267 mX12_stepsOf 12 1 := ⟨cbX12_stepsOf, tw_ (i := 1304) (by decide +kernel) rfl, ivX12_stepsOf, slX12_stepsOf, by decide, rfl⟩
theorem qX12_270 : gb_cv RX12 270 mX12_stepOf 12 2 := ⟨cbX12_stepOf, tw_ (i := 1308) (by decide +kernel) rfl, ivX12_stepOf, slX12_stepOf, by decide, rfl⟩
theorem qX12_273 : gb_cv RX12 273 mX12_take 12 1 := ⟨cbX12_take, tw_ (i := 1312) (by decide +kernel) rfl, ivX12_take, slX12_take, by decide, rfl⟩
theorem qX12_279 : gb_cv RX12 279 mX12_areFar 12 2 := ⟨cbX12_areFar, tw_ (i := 1316) (by decide +kernel) rfl, ivX12_areFar, slX12_areFar, by decide, rfl⟩
theorem qX12_264 : gb_cv RX12 264 mX12_abs 12 1 := ⟨cbX12_abs, tw_ (i := 1320) (by decide +kernel) rfl, ivX12_abs, slX12_abs, by decide, rfl⟩
theorem qX12_276 : gb_cv RX12 276 mX12_bringLeast 12 1 := ⟨cbX12_bringLeast, tw_ (i := 1324) (by decide +kernel) rfl, ivX12_bringLeast, slX12_bringLeast, by decide, rfl⟩
theorem qL_96 : gb_cv RL 96 mX12_akin 12 2 := ⟨cbX12_akin, tw_ (i := 1328) (by decide +kernel) rfl, ivX12_akin, slX12_akin, by decide, rfl⟩
theorem qL_116 : gb_cv RL 116 mX12_right 12 1 := ⟨cbX12_right, tw_ (i := 1332) (by decide +kernel) rfl, ivX12_right, slX12_right, by decide, rfl⟩
theorem qX12_297 : gb_cv RX12 297 mX12_makes 12 3 := ⟨cbX12_makes, tw_ (i := 1336) (by decide +kernel) rfl, ivX12_makes, slX12_makes, by decide, rfl⟩
theorem qX12_291 : gb_cv RX12 291 mX12_tryBegin 12 0 := ⟨cbX12_tryBegin, tw_ (i := 1340) (by decide +kernel) rfl, ivX12_tryBegin, slX12_tryBegin, by decide, rfl⟩
theorem qX12_294 : gb_cv RX12 294 mX12_tryStep 12 1 := ⟨cbX12_tryStep, tw_ (i := 1344) (by decide +kernel) rfl, ivX12_tryStep, slX12_tryStep, by decide, rfl⟩
theorem qX12_285 : gb_cv RX12 285 mX12_tryWalk 12 1 := ⟨cbX12_tryWalk, tw_ (i := 1348) (by decide +kernel) rfl, ivX12_tryWalk, slX12_tryWalk, by decide, rfl⟩
theorem qX12_288 : gb_cv RX12 288 mX12_tryPass 12 2 := ⟨cbX12_tryPass, tw_ (i := 1352) (by decide +kernel) rfl, ivX12_tryPass, slX12_tryPass, by decide, rfl⟩
theorem qL_120 : gb_cv RL 120 mX12_slips 12 2 := ⟨cbX12_slips, tw_ (i := 1356) (by decide +kernel) rfl, ivX12_slips, slX12_slips, by decide, rfl⟩
theorem qL_124 : gb_cv RL 124 mX12_fewest 12 2 := ⟨cbX12_fewest, tw_ (i := 1360) (by decide +kernel) rfl, ivX12_fewest, slX12_fewest, by decide, rfl⟩
theorem qX12_310 : gb_cv RX12 310 mX12_isTape 12 1 := ⟨cbX12_isTape, tw_ (i := 1364) (by decide +kernel) rfl, ivX12_isTape, slX12_isTape, by decide, rfl⟩
theorem qX12_313 : gb_cv RX12 313 mX12_findFar 12 0 := ⟨cbX12_findFar, tw_ (i := 1368) (by decide +kernel) rfl, ivX12_findFar, slX12_findFar, by decide, rfl⟩
theorem qX12_300 : gb_cv RX12 300 mX12_rank 12 1 := ⟨cbX12_rank, tw_ (i := 1372) (by decide +kernel) rfl, ivX12_rank, slX12_rank, by decide, rfl⟩
theorem qX12_303 : gb_cv RX12 303 mX12_unrank 12 2 := ⟨cbX12_unrank, tw_ (i := 1376) (by decide +kernel) rfl, ivX12_unrank, slX12_unrank, by decide, rfl⟩
theorem qX12_307 : gb_cv RX12 307 mX12_swap 12 2 := ⟨cbX12_swap, tw_ (i := 1380) (by decide +kernel) rfl, ivX12_swap, slX12_swap, by decide, rfl⟩
theorem qL_128 : gb_cv RL 128 mX12_set 12 2 := ⟨cbX12_set, tw_ (i := 1384) (by decide +kernel) rfl, ivX12_set, slX12_set, by decide, rfl⟩
theorem qX12_317 : gb_cv RX12 317 mX12_findSet 12 1 := ⟨cbX12_findSet, tw_ (i := 1388) (by decide +kernel) rfl, ivX12_findSet, slX12_findSet, by decide, rfl⟩
theorem qL_132 : gb_cv RL 132 mX12_spent 12 2 := ⟨cbX12_spent, tw_ (i := 1393) (by decide +kernel) rfl, ivX12_spent, slX12_spent, by decide, rfl⟩
theorem qL_136 : gb_cv RL 136 mX12_act 12 3 := ⟨cbX12_act, tw_ (i := 1397) (by decide +kernel) rfl, ivX12_act, slX12_act, by decide, rfl⟩
theorem qX12_326 : gb_cv RX12 326 mX12_greetsOf 12 2 := ⟨cbX12_greetsOf, tw_ (i := 1401) (by decide +kernel) rfl, ivX12_greetsOf, slX12_greetsOf, by decide, rfl⟩
theorem qX12_320 : gb_cv RX12 320 mX12_body 12 1 := ⟨cbX12_body, tw_ (i := 1405) (by decide +kernel) rfl, ivX12_body, slX12_body, by decide, rfl⟩
theorem qX12_323 : gb_cv RX12 323 mX12_plainGreets 12 2 := ⟨cbX12_plainGreets, tw_ (i := 1409) (by decide +kernel) rfl, ivX12_plainGreets, slX12_plainGreets, by decide, rfl⟩
theorem qX12_335 : gb_cv RX12 335 mX12_leadsOf 12 2 := ⟨cbX12_leadsOf, tw_ (i := 1413) (by decide +kernel) rfl, ivX12_leadsOf, slX12_leadsOf, by decide, rfl⟩
theorem qX12_332 : gb_cv RX12 332 mX12_leaderLeads 12 2 := ⟨cbX12_leaderLeads, tw_ (i := 1417) (by decide +kernel) rfl, ivX12_leaderLeads, slX12_leaderLeads, by decide, rfl⟩
theorem qX12_329 : gb_cv RX12 329 mX12_plainLeads 12 2 := ⟨cbX12_plainLeads, tw_ (i := 1421) (by decide +kernel) rfl, ivX12_plainLeads, slX12_plainLeads, by decide, rfl⟩
theorem qX12_341 : gb_cv RX12 341 mX12_restsOf 12 2 := ⟨cbX12_restsOf, tw_ (i := 1425) (by decide +kernel) rfl, ivX12_restsOf, slX12_restsOf, by decide, rfl⟩
theorem qX12_338 : gb_cv RX12 338 mX12_plainRests 12 2 := ⟨cbX12_plainRests, tw_ (i := 1429) (by decide +kernel) rfl, ivX12_plainRests, slX12_plainRests, by decide, rfl⟩
theorem qL_140 : gb_cv RL 140 mX12_trace 12 1 := ⟨cbX12_trace, tw_ (i := 1433) (by decide +kernel) rfl, ivX12_trace, slX12_trace, by decide, rfl⟩
theorem qL_144 : gb_cv RL 144 mX12_taken 12 2 := ⟨cbX12_taken, tw_ (i := 1437) (by decide +kernel) rfl, ivX12_taken, slX12_taken, by decide, rfl⟩
theorem qL_148 : gb_cv RL 148 mX12_count 12 1 := ⟨cbX12_count, tw_ (i := 1441) (by decide +kernel) rfl, ivX12_count, slX12_count, by decide, rfl⟩
theorem qL_152 : gb_cv RL 152 mX12_tape 12 3 := ⟨cbX12_tape, tw_ (i := 1445) (by decide +kernel) rfl, ivX12_tape, slX12_tape, by decide, rfl⟩
theorem qL_156 : gb_cv RL 156 mX12_item 12 3 := ⟨cbX12_item, tw_ (i := 1449) (by decide +kernel) rfl, ivX12_item, slX12_item, by decide, rfl⟩
theorem qX12_345 : gb_cv RX12 345 mX12_narrow 12 2 := ⟨cbX12_narrow, tw_ (i := 1453) (by decide +kernel) rfl, ivX12_narrow, slX12_narrow, by decide, rfl⟩
theorem qL_160 : gb_cv RL 160 mX12_read 12 2 := ⟨cbX12_read, tw_ (i := 1458) (by decide +kernel) rfl, ivX12_read, slX12_read, by decide, rfl⟩
theorem qL_165 : gb_cv RL 165 mX12_shift 12 5 := ⟨cbX12_shift, tw_ (i := 1463) (by decide +kernel) rfl, ivX12_shift, slX12_shift, by decide, rfl⟩
theorem qX11_21 : gb_cin RX11 21 mX0_init 0 "MaypoleGreen" := ⟨cbX0_init, List.mem_of_getElem? (i := 0) (by decide +kernel), ivX0_init, rfl, rfl⟩
theorem qX11_35 : gb_cin RX11 35 mX2_init 0 "MaypoleGreen" := ⟨cbX2_init, List.mem_of_getElem? (i := 1) (by decide +kernel), ivX2_init, rfl, rfl⟩
theorem qX11_55 : gb_cin RX11 55 mX1_init 0 "MaypoleGreen" := ⟨cbX1_init, List.mem_of_getElem? (i := 2) (by decide +kernel), ivX1_init, rfl, rfl⟩
theorem qX11_62 : gb_cin RX11 62 mX6_init 0 "MaypoleGreen" := ⟨cbX6_init, List.mem_of_getElem? (i := 3) (by decide +kernel), ivX6_init, rfl, rfl⟩
theorem qX11_78 : gb_cin RX11 78 mX7_init 0 "MaypoleGreen" := ⟨cbX7_init, List.mem_of_getElem? (i := 4) (by decide +kernel), ivX7_init, rfl, rfl⟩
theorem qX11_85 : gb_cin RX11 85 mX3_init 0 "MaypoleGreen" := ⟨cbX3_init, List.mem_of_getElem? (i := 5) (by decide +kernel), ivX3_init, rfl, rfl⟩
theorem qX11_95 : gb_cin RX11 95 mX4_init 0 "MaypoleGreen" := ⟨cbX4_init, List.mem_of_getElem? (i := 6) (by decide +kernel), ivX4_init, rfl, rfl⟩
theorem qX11_102 : gb_cin RX11 102 mX8_init 0 "MaypoleGreen" := ⟨cbX8_init, List.mem_of_getElem? (i := 7) (by decide +kernel), ivX8_init, rfl, rfl⟩
theorem qX11_113 : gb_cin RX11 113 mX10_init 0 "MaypoleGreen" := ⟨cbX10_init, List.mem_of_getElem? (i := 8) (by decide +kernel), ivX10_init, rfl, rfl⟩
theorem qX2_63 : gb_csn RX2 63 mX11_behind 2 "MaypoleGreen" := ⟨cbX11_behind, List.mem_of_getElem? (i := 9) (by decide +kernel), svX11_behind⟩
theorem qX1_54 : gb_csn RX1 54 mX11_ahead 2 "MaypoleGreen" := ⟨cbX11_ahead, List.mem_of_getElem? (i := 10) (by decide +kernel), svX11_ahead⟩
theorem qX1_57 : gb_csn RX1 57 mX11_behind 2 "MaypoleGreen" := ⟨cbX11_behind, List.mem_of_getElem? (i := 11) (by decide +kernel), svX11_behind⟩
theorem qX3_63 : gb_csn RX3 63 mX11_behind 2 "MaypoleGreen" := ⟨cbX11_behind, List.mem_of_getElem? (i := 12) (by decide +kernel), svX11_behind⟩
theorem qX3_66 : gb_csn RX3 66 mX11_ahead 2 "MaypoleGreen" := ⟨cbX11_ahead, List.mem_of_getElem? (i := 13) (by decide +kernel), svX11_ahead⟩
theorem qX4_54 : gb_csn RX4 54 mX11_behind 2 "MaypoleGreen" := ⟨cbX11_behind, List.mem_of_getElem? (i := 14) (by decide +kernel), svX11_behind⟩
theorem qX8_91 : gb_csn RX8 91 mX11_behind 2 "MaypoleGreen" := ⟨cbX11_behind, List.mem_of_getElem? (i := 15) (by decide +kernel), svX11_behind⟩
