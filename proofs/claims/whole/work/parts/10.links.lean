/-! by program: the methods' tuples, their links, their rooms; shapes of fields and places -/
theorem inX0 : ∀ w ∈ u_ws RX0 TX0 6, w ∈ allW := by
  have h1 : ∀ w ∈ u_ws RX0 TX0 6, w ∈ lw_tbl := by decide +kernel
  have h2 : ∀ w ∈ u_ws RX0 TX0 6, goodWord w = true := by decide +kernel
  exact fun w h => List.mem_filter.mpr ⟨h1 w h, h2 w h⟩
theorem inX1 : ∀ w ∈ u_ws RX1 TX1 3, w ∈ allW := by
  have h1 : ∀ w ∈ u_ws RX1 TX1 3, w ∈ lw_tbl := by decide +kernel
  have h2 : ∀ w ∈ u_ws RX1 TX1 3, goodWord w = true := by decide +kernel
  exact fun w h => List.mem_filter.mpr ⟨h1 w h, h2 w h⟩
theorem inX2 : ∀ w ∈ u_ws RX2 TX2 2, w ∈ allW := by
  have h1 : ∀ w ∈ u_ws RX2 TX2 2, w ∈ lw_tbl := by decide +kernel
  have h2 : ∀ w ∈ u_ws RX2 TX2 2, goodWord w = true := by decide +kernel
  exact fun w h => List.mem_filter.mpr ⟨h1 w h, h2 w h⟩
theorem inX3 : ∀ w ∈ u_ws RX3 TX3 3, w ∈ allW := by
  have h1 : ∀ w ∈ u_ws RX3 TX3 3, w ∈ lw_tbl := by decide +kernel
  have h2 : ∀ w ∈ u_ws RX3 TX3 3, goodWord w = true := by decide +kernel
  exact fun w h => List.mem_filter.mpr ⟨h1 w h, h2 w h⟩
theorem inX4 : ∀ w ∈ u_ws RX4 TX4 2, w ∈ allW := by
  have h1 : ∀ w ∈ u_ws RX4 TX4 2, w ∈ lw_tbl := by decide +kernel
  have h2 : ∀ w ∈ u_ws RX4 TX4 2, goodWord w = true := by decide +kernel
  exact fun w h => List.mem_filter.mpr ⟨h1 w h, h2 w h⟩
theorem inX5 : ∀ w ∈ u_ws RX5 TX5 4, w ∈ allW := by
  have h1 : ∀ w ∈ u_ws RX5 TX5 4, w ∈ lw_tbl := by decide +kernel
  have h2 : ∀ w ∈ u_ws RX5 TX5 4, goodWord w = true := by decide +kernel
  exact fun w h => List.mem_filter.mpr ⟨h1 w h, h2 w h⟩
theorem inX6 : ∀ w ∈ u_ws RX6 TX6 2, w ∈ allW := by
  have h1 : ∀ w ∈ u_ws RX6 TX6 2, w ∈ lw_tbl := by decide +kernel
  have h2 : ∀ w ∈ u_ws RX6 TX6 2, goodWord w = true := by decide +kernel
  exact fun w h => List.mem_filter.mpr ⟨h1 w h, h2 w h⟩
theorem inX7 : ∀ w ∈ u_ws RX7 TX7 12, w ∈ allW := by
  have h1 : ∀ w ∈ u_ws RX7 TX7 12, w ∈ lw_tbl := by decide +kernel
  have h2 : ∀ w ∈ u_ws RX7 TX7 12, goodWord w = true := by decide +kernel
  exact fun w h => List.mem_filter.mpr ⟨h1 w h, h2 w h⟩
theorem inX8 : ∀ w ∈ u_ws RX8 TX8 34, w ∈ allW := by
  have h1 : ∀ w ∈ u_ws RX8 TX8 34, w ∈ lw_tbl := by decide +kernel
  have h2 : ∀ w ∈ u_ws RX8 TX8 34, goodWord w = true := by decide +kernel
  exact fun w h => List.mem_filter.mpr ⟨h1 w h, h2 w h⟩
abbrev K_X0_allows : MK := (yX0_allows, cX0_allows, 3, (some .boolean), { frames := 0, cells := 0, slots := 0, locals := 0 })
abbrev K_X0_becomeLike : MK := (yX0_becomeLike, cX0_becomeLike, 2, none, { frames := 1, cells := 0, slots := 0, locals := 26 })
abbrev K_X0_hasPlace : MK := (yX0_hasPlace, cX0_hasPlace, 2, (some .boolean), { frames := 0, cells := 0, slots := 0, locals := 0 })
abbrev K_X7_isWithin : MK := (yX7_isWithin, cX7_isWithin, 3, (some .boolean), { frames := 0, cells := 0, slots := 0, locals := 0 })
abbrev K_X0_isDigit : MK := (yX0_isDigit, cX0_isDigit, 1, (some .boolean), { frames := 1, cells := 0, slots := 0, locals := 22 })
abbrev K_X0_carried : MK := (yX0_carried, cX0_carried, 2, (some .int), { frames := 0, cells := 0, slots := 0, locals := 0 })
abbrev K_X0_canCarry : MK := (yX0_canCarry, cX0_canCarry, 4, (some .boolean), { frames := 2, cells := 0, slots := 0, locals := 42 })
abbrev K_X0_carryOnce : MK := (yX0_carryOnce, cX0_carryOnce, 4, none, { frames := 3, cells := 0, slots := 0, locals := 65 })
abbrev K_X0_greedyInto : MK := (yX0_greedyInto, cX0_greedyInto, 11, none, { frames := 1, cells := 0, slots := 0, locals := 21 })
abbrev K_X0_highestCarry : MK := (yX0_highestCarry, cX0_highestCarry, 4, (some .int), { frames := 3, cells := 0, slots := 0, locals := 65 })
abbrev K_X0_isRowOfSteps : MK := (yX0_isRowOfSteps, cX0_isRowOfSteps, 4, (some .boolean), { frames := 1, cells := 0, slots := 0, locals := 22 })
abbrev K_X0_kind : MK := (yX0_kind, cX0_kind, 2, (some .int), { frames := 0, cells := 0, slots := 0, locals := 0 })
abbrev K_X0_makeWorths : MK := (yX0_makeWorths, cX0_makeWorths, 8, none, { frames := 0, cells := 0, slots := 0, locals := 0 })
abbrev K_X0_settleAll : MK := (yX0_settleAll, cX0_settleAll, 4, (some .int), { frames := 4, cells := 0, slots := 0, locals := 88 })
abbrev K_X0_shiftInto : MK := (yX0_shiftInto, cX0_shiftInto, 6, none, { frames := 1, cells := 0, slots := 0, locals := 21 })
abbrev K_X0_tell : MK := (yX0_tell, cX0_tell, 5, none, { frames := 1, cells := 0, slots := 0, locals := 27 })
abbrev K_X0_valueBelow : MK := (yX0_valueBelow, cX0_valueBelow, 6, (some .long), { frames := 0, cells := 0, slots := 0, locals := 0 })
abbrev K_X0_turnAhead : MK := (yX0_turnAhead, cX0_turnAhead, 9, (some .long), { frames := 1, cells := 0, slots := 0, locals := 25 })
abbrev K_X0_valueOf : MK := (yX0_valueOf, cX0_valueOf, 2, (some .long), { frames := 1, cells := 0, slots := 0, locals := 25 })
abbrev K_X1_move : MK := (yX1_move, cX1_move, 3, none, { frames := 1, cells := 0, slots := 0, locals := 26 })
abbrev K_X1_dropEldest : MK := (yX1_dropEldest, cX1_dropEldest, 2, none, { frames := 2, cells := 0, slots := 0, locals := 48 })
abbrev K_X1_forget : MK := (yX1_forget, cX1_forget, 4, none, { frames := 2, cells := 0, slots := 0, locals := 48 })
abbrev K_X1_keep : MK := (yX1_keep, cX1_keep, 3, none, { frames := 3, cells := 0, slots := 0, locals := 69 })
abbrev K_X1_latestReel : MK := (yX1_latestReel, cX1_latestReel, 1, (some .int), { frames := 1, cells := 0, slots := 0, locals := 22 })
abbrev K_X1_takeLatest : MK := (yX1_takeLatest, cX1_takeLatest, 2, none, { frames := 1, cells := 0, slots := 0, locals := 26 })
abbrev K_X2_become : MK := (yX2_become, cX2_become, 3, none, { frames := 1, cells := 0, slots := 0, locals := 23 })
abbrev K_X2_hasPlace : MK := (yX2_hasPlace, cX2_hasPlace, 2, (some .boolean), { frames := 0, cells := 0, slots := 0, locals := 0 })
abbrev K_X2_digitsInto : MK := (yX2_digitsInto, cX2_digitsInto, 6, (some .boolean), { frames := 1, cells := 0, slots := 0, locals := 21 })
abbrev K_X2_hasRange : MK := (yX2_hasRange, cX2_hasRange, 3, (some .boolean), { frames := 0, cells := 0, slots := 0, locals := 0 })
abbrev K_X2_isMissing : MK := (yX2_isMissing, cX2_isMissing, 1, (some .boolean), { frames := 0, cells := 0, slots := 0, locals := 0 })
abbrev K_X3_firstFrom : MK := (yX3_firstFrom, cX3_firstFrom, 4, (some .int), { frames := 0, cells := 0, slots := 0, locals := 0 })
abbrev K_X5_add : MK := (yX5_add, cX5_add, 6, none, { frames := 1, cells := 0, slots := 0, locals := 23 })
abbrev K_X3_nextLeast : MK := (yX3_nextLeast, cX3_nextLeast, 11, (some .int), { frames := 0, cells := 0, slots := 0, locals := 0 })
abbrev K_X3_take : MK := (yX3_take, cX3_take, 12, none, { frames := 2, cells := 0, slots := 0, locals := 48 })
abbrev K_X3_make : MK := (yX3_make, cX3_make, 9, (some (.object "SummedBases$Rests")), { frames := 3, cells := 0, slots := 0, locals := 79 })
abbrev K_X6_add : MK := (yX6_add, cX6_add, 2, (some .boolean), { frames := 0, cells := 0, slots := 0, locals := 0 })
abbrev K_X6_isFigure : MK := (yX6_isFigure, cX6_isFigure, 1, (some .boolean), { frames := 1, cells := 0, slots := 0, locals := 22 })
abbrev K_X6_fault : MK := (yX6_fault, cX6_fault, 5, (some .int), { frames := 2, cells := 0, slots := 0, locals := 42 })
abbrev K_X6_numbersInto : MK := (yX6_numbersInto, cX6_numbersInto, 5, (some .int), { frames := 1, cells := 0, slots := 0, locals := 23 })
abbrev K_X7_addInto : MK := (yX7_addInto, cX7_addInto, 4, (some .boolean), { frames := 0, cells := 0, slots := 0, locals := 0 })
abbrev K_X7_reelAt : MK := (yX7_reelAt, cX7_reelAt, 2, (some (.object "SummedBases$Reel")), { frames := 1, cells := 0, slots := 0, locals := 22 })
abbrev K_X7_at : MK := (yX7_at, cX7_at, 5, (some .int), { frames := 2, cells := 0, slots := 0, locals := 43 })
abbrev K_X7_back : MK := (yX7_back, cX7_back, 2, (some .int), { frames := 2, cells := 0, slots := 0, locals := 47 })
abbrev K_X7_baseAt : MK := (yX7_baseAt, cX7_baseAt, 2, (some (.object "SummedBases$Base")), { frames := 1, cells := 0, slots := 0, locals := 22 })
abbrev K_X7_clearReel : MK := (yX7_clearReel, cX7_clearReel, 3, none, { frames := 3, cells := 0, slots := 0, locals := 71 })
abbrev K_X7_base : MK := (yX7_base, cX7_base, 7, (some .int), { frames := 4, cells := 0, slots := 0, locals := 93 })
abbrev K_X7_exchange : MK := (yX7_exchange, cX7_exchange, 6, (some .int), { frames := 4, cells := 0, slots := 0, locals := 91 })
abbrev K_X7_borrow : MK := (yX7_borrow, cX7_borrow, 4, (some .int), { frames := 5, cells := 0, slots := 0, locals := 116 })
abbrev K_X7_carry : MK := (yX7_carry, cX7_carry, 4, (some .int), { frames := 5, cells := 0, slots := 0, locals := 116 })
abbrev K_X7_copyDigits : MK := (yX7_copyDigits, cX7_copyDigits, 2, none, { frames := 1, cells := 0, slots := 0, locals := 26 })
abbrev K_X7_carryState : MK := (yX7_carryState, cX7_carryState, 5, none, { frames := 2, cells := 0, slots := 0, locals := 47 })
abbrev K_X7_rowAt : MK := (yX7_rowAt, cX7_rowAt, 2, (some (.object "SummedBases$LongRow")), { frames := 1, cells := 0, slots := 0, locals := 22 })
abbrev K_X7_copy : MK := (yX7_copy, cX7_copy, 8, (some .int), { frames := 2, cells := 0, slots := 0, locals := 43 })
abbrev K_X7_countReels : MK := (yX7_countReels, cX7_countReels, 4, (some .int), { frames := 2, cells := 0, slots := 0, locals := 43 })
abbrev K_X7_countRows : MK := (yX7_countRows, cX7_countRows, 4, (some .int), { frames := 2, cells := 0, slots := 0, locals := 43 })
abbrev K_X7_count : MK := (yX7_count, cX7_count, 2, (some .int), { frames := 3, cells := 0, slots := 0, locals := 66 })
abbrev K_X7_countNotZero : MK := (yX7_countNotZero, cX7_countNotZero, 6, (some .int), { frames := 0, cells := 0, slots := 0, locals := 0 })
abbrev K_X7_countUnlike : MK := (yX7_countUnlike, cX7_countUnlike, 4, (some .int), { frames := 0, cells := 0, slots := 0, locals := 0 })
abbrev K_X7_crossed : MK := (yX7_crossed, cX7_crossed, 9, (some .int), { frames := 2, cells := 0, slots := 0, locals := 51 })
abbrev K_X7_digit : MK := (yX7_digit, cX7_digit, 7, (some .int), { frames := 4, cells := 0, slots := 0, locals := 91 })
abbrev K_X7_empty : MK := (yX7_empty, cX7_empty, 3, (some .int), { frames := 4, cells := 0, slots := 0, locals := 93 })
abbrev K_X7_feed : MK := (yX7_feed, cX7_feed, 2, (some .int), { frames := 1, cells := 0, slots := 0, locals := 22 })
abbrev K_X7_fillReel : MK := (yX7_fillReel, cX7_fillReel, 5, (some .int), { frames := 3, cells := 0, slots := 0, locals := 71 })
abbrev K_X7_film : MK := (yX7_film, cX7_film, 7, (some .int), { frames := 2, cells := 0, slots := 0, locals := 45 })
abbrev K_X7_get : MK := (yX7_get, cX7_get, 4, (some .long), { frames := 2, cells := 0, slots := 0, locals := 43 })
abbrev K_X7_highestNotZero : MK := (yX7_highestNotZero, cX7_highestNotZero, 2, (some .int), { frames := 0, cells := 0, slots := 0, locals := 0 })
abbrev K_X7_image : MK := (yX7_image, cX7_image, 1, (some .int), { frames := 3, cells := 0, slots := 0, locals := 71 })
abbrev K_X7_isUnder : MK := (yX7_isUnder, cX7_isUnder, 2, (some .boolean), { frames := 0, cells := 0, slots := 0, locals := 0 })
abbrev K_X7_lay : MK := (yX7_lay, cX7_lay, 6, (some .int), { frames := 4, cells := 0, slots := 0, locals := 95 })
abbrev K_X7_like : MK := (yX7_like, cX7_like, 9, (some .int), { frames := 2, cells := 0, slots := 0, locals := 46 })
abbrev K_X7_of : MK := (yX7_of, cX7_of, 4, (some .int), { frames := 2, cells := 0, slots := 0, locals := 43 })
abbrev K_X7_turnTo : MK := (yX7_turnTo, cX7_turnTo, 7, (some .int), { frames := 4, cells := 0, slots := 0, locals := 91 })
abbrev K_X7_on : MK := (yX7_on, cX7_on, 7, (some .int), { frames := 5, cells := 0, slots := 0, locals := 117 })
abbrev K_X7_printInto : MK := (yX7_printInto, cX7_printInto, 5, (some .int), { frames := 1, cells := 0, slots := 0, locals := 23 })
abbrev K_X7_print : MK := (yX7_print, cX7_print, 5, (some .int), { frames := 2, cells := 0, slots := 0, locals := 47 })
abbrev K_X7_put : MK := (yX7_put, cX7_put, 6, (some .int), { frames := 2, cells := 0, slots := 0, locals := 43 })
abbrev K_X7_read : MK := (yX7_read, cX7_read, 6, (some .int), { frames := 4, cells := 0, slots := 0, locals := 95 })
abbrev K_X7_times : MK := (yX7_times, cX7_times, 6, (some .long), { frames := 0, cells := 0, slots := 0, locals := 0 })
abbrev K_X7_reckon : MK := (yX7_reckon, cX7_reckon, 7, (some .long), { frames := 1, cells := 0, slots := 0, locals := 25 })
abbrev K_X7_right : MK := (yX7_right, cX7_right, 6, (some .int), { frames := 5, cells := 0, slots := 0, locals := 117 })
abbrev K_X7_row : MK := (yX7_row, cX7_row, 4, (some .int), { frames := 2, cells := 0, slots := 0, locals := 45 })
abbrev K_X7_settle : MK := (yX7_settle, cX7_settle, 4, (some .int), { frames := 5, cells := 0, slots := 0, locals := 111 })
abbrev K_X7_shift : MK := (yX7_shift, cX7_shift, 6, (some .int), { frames := 4, cells := 0, slots := 0, locals := 91 })
abbrev K_X7_soon : MK := (yX7_soon, cX7_soon, 8, (some .int), { frames := 2, cells := 0, slots := 0, locals := 53 })
abbrev K_X7_write : MK := (yX7_write, cX7_write, 6, (some .int), { frames := 4, cells := 0, slots := 0, locals := 95 })
abbrev K_X7_sum : MK := (yX7_sum, cX7_sum, 10, (some .int), { frames := 5, cells := 0, slots := 0, locals := 120 })
abbrev K_X7_taken : MK := (yX7_taken, cX7_taken, 5, (some .int), { frames := 2, cells := 0, slots := 0, locals := 43 })
abbrev K_X7_told : MK := (yX7_told, cX7_told, 5, (some .int), { frames := 2, cells := 0, slots := 0, locals := 43 })
abbrev K_X7_top : MK := (yX7_top, cX7_top, 3, (some .long), { frames := 2, cells := 0, slots := 0, locals := 43 })
abbrev K_X7_undo : MK := (yX7_undo, cX7_undo, 1, (some .int), { frames := 3, cells := 0, slots := 0, locals := 71 })
abbrev K_X7_value : MK := (yX7_value, cX7_value, 4, (some .long), { frames := 2, cells := 0, slots := 0, locals := 46 })
abbrev K_X7_ways : MK := (yX7_ways, cX7_ways, 8, (some .long), { frames := 4, cells := 0, slots := 0, locals := 107 })
abbrev K_X7_worth : MK := (yX7_worth, cX7_worth, 5, (some .long), { frames := 2, cells := 0, slots := 0, locals := 43 })
abbrev K_X8_in : MK := (yX8_in, cX8_in, 6, (some .boolean), { frames := 0, cells := 0, slots := 0, locals := 0 })
abbrev K_X8_isReel : MK := (yX8_isReel, cX8_isReel, 1, (some .boolean), { frames := 1, cells := 0, slots := 0, locals := 25 })
abbrev K_X8_isEmpty : MK := (yX8_isEmpty, cX8_isEmpty, 2, (some .boolean), { frames := 0, cells := 0, slots := 0, locals := 0 })
abbrev K_X8_refusal : MK := (yX8_refusal, cX8_refusal, 2, (some .int), { frames := 2, cells := 0, slots := 0, locals := 45 })
abbrev K_X8_high : MK := (yX8_high, cX8_high, 2, (some .int), { frames := 0, cells := 0, slots := 0, locals := 0 })
abbrev K_X8_refusal_ : MK := (yX8_refusal_, cX8_refusal_, 5, (some .int), { frames := 3, cells := 0, slots := 0, locals := 66 })
abbrev K_X8_digitAt : MK := (yX8_digitAt, cX8_digitAt, 3, (some .int), { frames := 0, cells := 0, slots := 0, locals := 0 })
abbrev K_X8_at : MK := (yX8_at, cX8_at, 4, (some .int), { frames := 4, cells := 0, slots := 0, locals := 90 })
abbrev K_X8_back : MK := (yX8_back, cX8_back, 2, (some .int), { frames := 0, cells := 0, slots := 0, locals := 0 })
abbrev K_X8_isBase : MK := (yX8_isBase, cX8_isBase, 1, (some .boolean), { frames := 1, cells := 0, slots := 0, locals := 25 })
abbrev K_X8_step : MK := (yX8_step, cX8_step, 3, (some .int), { frames := 0, cells := 0, slots := 0, locals := 0 })
abbrev K_X8_fills : MK := (yX8_fills, cX8_fills, 9, none, { frames := 1, cells := 0, slots := 0, locals := 22 })
abbrev K_X8_moves : MK := (yX8_moves, cX8_moves, 4, none, { frames := 0, cells := 0, slots := 0, locals := 0 })
abbrev K_X8_forgets : MK := (yX8_forgets, cX8_forgets, 4, none, { frames := 1, cells := 0, slots := 0, locals := 23 })
abbrev K_X8_base : MK := (yX8_base, cX8_base, 6, (some .int), { frames := 2, cells := 0, slots := 0, locals := 50 })
abbrev K_X8_worth : MK := (yX8_worth, cX8_worth, 3, (some .long), { frames := 0, cells := 0, slots := 0, locals := 0 })
abbrev K_X8_can : MK := (yX8_can, cX8_can, 8, (some .boolean), { frames := 1, cells := 0, slots := 0, locals := 25 })
abbrev K_X8_does : MK := (yX8_does, cX8_does, 3, none, { frames := 1, cells := 0, slots := 0, locals := 23 })
abbrev K_X8_goes : MK := (yX8_goes, cX8_goes, 5, none, { frames := 1, cells := 0, slots := 0, locals := 22 })
abbrev K_X8_borrow : MK := (yX8_borrow, cX8_borrow, 4, (some .int), { frames := 4, cells := 0, slots := 0, locals := 90 })
abbrev K_X8_carry : MK := (yX8_carry, cX8_carry, 4, (some .int), { frames := 4, cells := 0, slots := 0, locals := 90 })
abbrev K_X8_comes : MK := (yX8_comes, cX8_comes, 7, (some .long), { frames := 0, cells := 0, slots := 0, locals := 0 })
abbrev K_X8_isRow : MK := (yX8_isRow, cX8_isRow, 1, (some .boolean), { frames := 1, cells := 0, slots := 0, locals := 25 })
abbrev K_X8_copy : MK := (yX8_copy, cX8_copy, 7, (some .int), { frames := 2, cells := 0, slots := 0, locals := 45 })
abbrev K_X8_full : MK := (yX8_full, cX8_full, 3, (some .int), { frames := 1, cells := 0, slots := 0, locals := 21 })
abbrev K_X8_count : MK := (yX8_count, cX8_count, 4, (some .int), { frames := 2, cells := 0, slots := 0, locals := 43 })
abbrev K_X8_makes : MK := (yX8_makes, cX8_makes, 7, none, { frames := 1, cells := 0, slots := 0, locals := 22 })
abbrev K_X8_crossed : MK := (yX8_crossed, cX8_crossed, 7, (some .int), { frames := 2, cells := 0, slots := 0, locals := 48 })
abbrev K_X8_digit : MK := (yX8_digit, cX8_digit, 6, (some .int), { frames := 4, cells := 0, slots := 0, locals := 90 })
abbrev K_X8_empty : MK := (yX8_empty, cX8_empty, 2, (some .int), { frames := 2, cells := 0, slots := 0, locals := 46 })
abbrev K_X8_feed : MK := (yX8_feed, cX8_feed, 2, (some .int), { frames := 1, cells := 0, slots := 0, locals := 25 })
abbrev K_X8_filled : MK := (yX8_filled, cX8_filled, 4, (some .int), { frames := 1, cells := 0, slots := 0, locals := 22 })
abbrev K_X8_row : MK := (yX8_row, cX8_row, 4, (some .int), { frames := 2, cells := 0, slots := 0, locals := 45 })
abbrev K_X8_film : MK := (yX8_film, cX8_film, 5, (some .int), { frames := 3, cells := 0, slots := 0, locals := 68 })
abbrev K_X8_get : MK := (yX8_get, cX8_get, 3, (some .long), { frames := 2, cells := 0, slots := 0, locals := 45 })
abbrev K_X8_highest : MK := (yX8_highest, cX8_highest, 3, (some .int), { frames := 1, cells := 0, slots := 0, locals := 22 })
abbrev K_X8_takes : MK := (yX8_takes, cX8_takes, 4, (some .int), { frames := 1, cells := 0, slots := 0, locals := 22 })
abbrev K_X8_holds : MK := (yX8_holds, cX8_holds, 3, (some .int), { frames := 2, cells := 0, slots := 0, locals := 46 })
abbrev K_X8_image : MK := (yX8_image, cX8_image, 2, (some .int), { frames := 2, cells := 0, slots := 0, locals := 43 })
abbrev K_X8_isFigure : MK := (yX8_isFigure, cX8_isFigure, 1, (some .boolean), { frames := 1, cells := 0, slots := 0, locals := 25 })
abbrev K_X8_isLegal : MK := (yX8_isLegal, cX8_isLegal, 5, (some .boolean), { frames := 1, cells := 0, slots := 0, locals := 22 })
abbrev K_X8_kind : MK := (yX8_kind, cX8_kind, 3, (some .int), { frames := 1, cells := 0, slots := 0, locals := 22 })
abbrev K_X8_lay : MK := (yX8_lay, cX8_lay, 5, (some .int), { frames := 3, cells := 0, slots := 0, locals := 68 })
abbrev K_X8_leaves : MK := (yX8_leaves, cX8_leaves, 8, none, { frames := 0, cells := 0, slots := 0, locals := 0 })
abbrev K_X8_valueOf : MK := (yX8_valueOf, cX8_valueOf, 5, (some .long), { frames := 1, cells := 0, slots := 0, locals := 22 })
abbrev K_X8_like : MK := (yX8_like, cX8_like, 6, (some .int), { frames := 2, cells := 0, slots := 0, locals := 46 })
abbrev K_X8_of : MK := (yX8_of, cX8_of, 3, (some .int), { frames := 2, cells := 0, slots := 0, locals := 45 })
abbrev K_X8_on : MK := (yX8_on, cX8_on, 5, (some .int), { frames := 2, cells := 0, slots := 0, locals := 48 })
abbrev K_X8_prints : MK := (yX8_prints, cX8_prints, 4, (some .int), { frames := 2, cells := 0, slots := 0, locals := 44 })
abbrev K_X8_print : MK := (yX8_print, cX8_print, 4, (some .int), { frames := 3, cells := 0, slots := 0, locals := 67 })
abbrev K_X8_put : MK := (yX8_put, cX8_put, 5, (some .int), { frames := 2, cells := 0, slots := 0, locals := 45 })
abbrev K_X8_reads : MK := (yX8_reads, cX8_reads, 4, (some .int), { frames := 2, cells := 0, slots := 0, locals := 45 })
abbrev K_X8_read : MK := (yX8_read, cX8_read, 5, (some .int), { frames := 3, cells := 0, slots := 0, locals := 68 })
abbrev K_X8_right : MK := (yX8_right, cX8_right, 3, (some .int), { frames := 3, cells := 0, slots := 0, locals := 66 })
abbrev K_X8_settle : MK := (yX8_settle, cX8_settle, 5, (some .int), { frames := 3, cells := 0, slots := 0, locals := 66 })
abbrev K_X8_shift : MK := (yX8_shift, cX8_shift, 5, (some .int), { frames := 2, cells := 0, slots := 0, locals := 45 })
abbrev K_X8_soon : MK := (yX8_soon, cX8_soon, 7, (some .int), { frames := 4, cells := 0, slots := 0, locals := 90 })
abbrev K_X8_sum : MK := (yX8_sum, cX8_sum, 8, (some .int), { frames := 3, cells := 0, slots := 0, locals := 68 })
abbrev K_X8_taken : MK := (yX8_taken, cX8_taken, 4, (some .int), { frames := 2, cells := 0, slots := 0, locals := 45 })
abbrev K_X8_told : MK := (yX8_told, cX8_told, 3, (some .int), { frames := 2, cells := 0, slots := 0, locals := 46 })
abbrev K_X8_top : MK := (yX8_top, cX8_top, 2, (some .long), { frames := 2, cells := 0, slots := 0, locals := 45 })
abbrev K_X8_undo : MK := (yX8_undo, cX8_undo, 2, (some .int), { frames := 2, cells := 0, slots := 0, locals := 50 })
abbrev K_X8_value : MK := (yX8_value, cX8_value, 2, (some .long), { frames := 3, cells := 0, slots := 0, locals := 66 })
abbrev K_X8_ways : MK := (yX8_ways, cX8_ways, 13, (some .long), { frames := 2, cells := 0, slots := 0, locals := 45 })
abbrev K_X8_worth_ : MK := (yX8_worth_, cX8_worth_, 4, (some .long), { frames := 2, cells := 0, slots := 0, locals := 45 })
abbrev K_X8_write : MK := (yX8_write, cX8_write, 5, (some .int), { frames := 3, cells := 0, slots := 0, locals := 68 })
theorem lm_X0_31 : LkM RX0 31 Lib.Math.min.name Lib.Math.min.code 2 .int := ⟨(wmem 154 (by decide +kernel) rfl), (wmem 155 (by decide +kernel) rfl), (wmem 51 (by decide +kernel) rfl), (wmem 156 (by decide +kernel) rfl)⟩
theorem lm_X0_37 : LkM RX0 37 Lib.Math.max.name Lib.Math.max.code 2 .int := ⟨(wmem 157 (by decide +kernel) rfl), (wmem 158 (by decide +kernel) rfl), (wmem 51 (by decide +kernel) rfl), (wmem 159 (by decide +kernel) rfl)⟩
theorem lm_X1_25 : LkM RX1 25 Lib.Math.min.name Lib.Math.min.code 2 .int := ⟨(wmem 383 (by decide +kernel) rfl), (wmem 155 (by decide +kernel) rfl), (wmem 51 (by decide +kernel) rfl), (wmem 156 (by decide +kernel) rfl)⟩
theorem lm_X2_19 : LkM RX2 19 Lib.Math.min.name Lib.Math.min.code 2 .int := ⟨(wmem 569 (by decide +kernel) rfl), (wmem 155 (by decide +kernel) rfl), (wmem 51 (by decide +kernel) rfl), (wmem 156 (by decide +kernel) rfl)⟩
theorem lm_X2_25 : LkM RX2 25 Lib.Math.max.name Lib.Math.max.code 2 .int := ⟨(wmem 570 (by decide +kernel) rfl), (wmem 158 (by decide +kernel) rfl), (wmem 51 (by decide +kernel) rfl), (wmem 159 (by decide +kernel) rfl)⟩
theorem lm_X5_24 : LkM RX5 24 Lib.Math.min.name Lib.Math.min.code 2 .int := ⟨(wmem 493 (by decide +kernel) rfl), (wmem 155 (by decide +kernel) rfl), (wmem 51 (by decide +kernel) rfl), (wmem 156 (by decide +kernel) rfl)⟩
theorem lm_X6_23 : LkM RX6 23 Lib.Math.min.name Lib.Math.min.code 2 .int := ⟨(wmem 543 (by decide +kernel) rfl), (wmem 155 (by decide +kernel) rfl), (wmem 51 (by decide +kernel) rfl), (wmem 156 (by decide +kernel) rfl)⟩
theorem lm_X7_313 : LkM RX7 313 Lib.Math.min.name Lib.Math.min.code 2 .int := ⟨(wmem 335 (by decide +kernel) rfl), (wmem 155 (by decide +kernel) rfl), (wmem 51 (by decide +kernel) rfl), (wmem 156 (by decide +kernel) rfl)⟩
theorem lm_X7_318 : LkM RX7 318 Lib.Math.max.name Lib.Math.max.code 2 .int := ⟨(wmem 518 (by decide +kernel) rfl), (wmem 158 (by decide +kernel) rfl), (wmem 51 (by decide +kernel) rfl), (wmem 159 (by decide +kernel) rfl)⟩
set_option maxRecDepth 100000 in
theorem ln_X0_27 : LkN 27 3 RX0 K_X7_isWithin := ⟨fun U h => h.1, (wmem 45 (by decide +kernel) rfl), (wmem 266 rfl rfl), ⟨by decide, by decide, by decide +kernel⟩, (wmem 265 (by decide +kernel) rfl)⟩
set_option maxRecDepth 100000 in
theorem ln_X1_41 : LkN 41 3 RX1 K_X7_isWithin := ⟨fun U h => h.2.2, (wmem 45 (by decide +kernel) rfl), (wmem 266 rfl rfl), ⟨by decide, by decide, by decide +kernel⟩, (wmem 265 (by decide +kernel) rfl)⟩
set_option maxRecDepth 100000 in
theorem ln_X6_29 : LkN 29 3 RX6 K_X7_isWithin := ⟨fun U h => h.2.1, (wmem 45 (by decide +kernel) rfl), (wmem 266 rfl rfl), ⟨by decide, by decide, by decide +kernel⟩, (wmem 265 (by decide +kernel) rfl)⟩
set_option maxRecDepth 100000 in
theorem ls_X0_69 : LkS 69 1 RX0 K_X0_isDigit := ⟨⟨(wmem 396 (by decide +kernel) rfl), (wmem 50 (by decide +kernel) rfl), (wmem 398 rfl rfl), by decide, by decide, by decide +kernel⟩, (wmem 397 (by decide +kernel) rfl)⟩
set_option maxRecDepth 100000 in
theorem ls_X6_19 : LkS 19 1 RX6 K_X6_isFigure := ⟨⟨(wmem 535 (by decide +kernel) rfl), (wmem 46 (by decide +kernel) rfl), (wmem 537 rfl rfl), by decide, by decide, by decide +kernel⟩, (wmem 536 (by decide +kernel) rfl)⟩
set_option maxRecDepth 100000 in
theorem ls_X7_102 : LkS 102 3 RX7 K_X7_isWithin := ⟨⟨(wmem 264 (by decide +kernel) rfl), (wmem 45 (by decide +kernel) rfl), (wmem 266 rfl rfl), by decide, by decide, by decide +kernel⟩, (wmem 265 (by decide +kernel) rfl)⟩
set_option maxRecDepth 100000 in
theorem ls_X7_130 : LkS 130 2 RX7 K_X7_isUnder := ⟨⟨(wmem 316 (by decide +kernel) rfl), (wmem 45 (by decide +kernel) rfl), (wmem 318 rfl rfl), by decide, by decide, by decide +kernel⟩, (wmem 317 (by decide +kernel) rfl)⟩
set_option maxRecDepth 100000 in
theorem ls_X7_151 : LkS 151 1 RX7 K_X7_countNotZero := ⟨⟨(wmem 337 (by decide +kernel) rfl), (wmem 45 (by decide +kernel) rfl), (wmem 339 rfl rfl), by decide, by decide, by decide +kernel⟩, (wmem 338 (by decide +kernel) rfl)⟩
set_option maxRecDepth 100000 in
theorem ls_X7_155 : LkS 155 1 RX7 K_X7_highestNotZero := ⟨⟨(wmem 352 (by decide +kernel) rfl), (wmem 45 (by decide +kernel) rfl), (wmem 354 rfl rfl), by decide, by decide, by decide +kernel⟩, (wmem 353 (by decide +kernel) rfl)⟩
set_option maxRecDepth 100000 in
theorem ls_X7_185 : LkS 185 2 RX7 K_X7_copyDigits := ⟨⟨(wmem 332 (by decide +kernel) rfl), (wmem 45 (by decide +kernel) rfl), (wmem 334 rfl rfl), by decide, by decide, by decide +kernel⟩, (wmem 333 (by decide +kernel) rfl)⟩
set_option maxRecDepth 100000 in
theorem ls_X7_197 : LkS 197 3 RX7 K_X7_addInto := ⟨⟨(wmem 465 (by decide +kernel) rfl), (wmem 45 (by decide +kernel) rfl), (wmem 467 rfl rfl), by decide, by decide, by decide +kernel⟩, (wmem 466 (by decide +kernel) rfl)⟩
set_option maxRecDepth 100000 in
theorem ls_X7_201 : LkS 201 4 RX7 K_X7_reckon := ⟨⟨(wmem 468 (by decide +kernel) rfl), (wmem 45 (by decide +kernel) rfl), (wmem 470 rfl rfl), by decide, by decide, by decide +kernel⟩, (wmem 469 (by decide +kernel) rfl)⟩
set_option maxRecDepth 100000 in
theorem ls_X7_209 : LkS 209 2 RX7 K_X7_countUnlike := ⟨⟨(wmem 434 (by decide +kernel) rfl), (wmem 45 (by decide +kernel) rfl), (wmem 436 rfl rfl), by decide, by decide, by decide +kernel⟩, (wmem 435 (by decide +kernel) rfl)⟩
set_option maxRecDepth 100000 in
theorem ls_X7_232 : LkS 232 2 RX7 K_X7_printInto := ⟨⟨(wmem 515 (by decide +kernel) rfl), (wmem 45 (by decide +kernel) rfl), (wmem 517 rfl rfl), by decide, by decide, by decide +kernel⟩, (wmem 516 (by decide +kernel) rfl)⟩
set_option maxRecDepth 100000 in
theorem ls_X7_284 : LkS 284 4 RX7 K_X7_carryState := ⟨⟨(wmem 613 (by decide +kernel) rfl), (wmem 45 (by decide +kernel) rfl), (wmem 615 rfl rfl), by decide, by decide, by decide +kernel⟩, (wmem 614 (by decide +kernel) rfl)⟩
set_option maxRecDepth 100000 in
theorem ls_X7_305 : LkS 305 3 RX7 K_X7_times := ⟨⟨(wmem 471 (by decide +kernel) rfl), (wmem 45 (by decide +kernel) rfl), (wmem 473 rfl rfl), by decide, by decide, by decide +kernel⟩, (wmem 472 (by decide +kernel) rfl)⟩
set_option maxRecDepth 100000 in
theorem ls_X7_79 : LkS 79 2 RX7 K_X0_isRowOfSteps := ⟨⟨(wmem 267 (by decide +kernel) rfl), (wmem 50 (by decide +kernel) rfl), (wmem 269 rfl rfl), by decide, by decide, by decide +kernel⟩, (wmem 268 (by decide +kernel) rfl)⟩
set_option maxRecDepth 100000 in
theorem ls_X8_104 : LkS 104 3 RX8 K_X8_in := ⟨⟨(wmem 764 (by decide +kernel) rfl), (wmem 54 (by decide +kernel) rfl), (wmem 766 rfl rfl), by decide, by decide, by decide +kernel⟩, (wmem 765 (by decide +kernel) rfl)⟩
set_option maxRecDepth 100000 in
theorem ls_X8_114 : LkS 114 1 RX8 K_X8_isBase := ⟨⟨(wmem 760 (by decide +kernel) rfl), (wmem 54 (by decide +kernel) rfl), (wmem 762 rfl rfl), by decide, by decide, by decide +kernel⟩, (wmem 761 (by decide +kernel) rfl)⟩
set_option maxRecDepth 100000 in
theorem ls_X8_149 : LkS 149 1 RX8 K_X8_isReel := ⟨⟨(wmem 806 (by decide +kernel) rfl), (wmem 54 (by decide +kernel) rfl), (wmem 808 rfl rfl), by decide, by decide, by decide +kernel⟩, (wmem 807 (by decide +kernel) rfl)⟩
set_option maxRecDepth 100000 in
theorem ls_X8_211 : LkS 211 4 RX8 K_X8_comes := ⟨⟨(wmem 932 (by decide +kernel) rfl), (wmem 54 (by decide +kernel) rfl), (wmem 934 rfl rfl), by decide, by decide, by decide +kernel⟩, (wmem 933 (by decide +kernel) rfl)⟩
set_option maxRecDepth 100000 in
theorem ls_X8_251 : LkS 251 1 RX8 K_X8_isRow := ⟨⟨(wmem 985 (by decide +kernel) rfl), (wmem 54 (by decide +kernel) rfl), (wmem 987 rfl rfl), by decide, by decide, by decide +kernel⟩, (wmem 986 (by decide +kernel) rfl)⟩
theorem la_X0_55 : LkA RX0 55 := ⟨(wmem 620 (by decide +kernel) rfl), (wmem 290 (by decide +kernel) rfl), (wmem 289 (by decide +kernel) rfl), (wmem 55 (by decide +kernel) rfl)⟩
theorem la_X1_31 : LkA RX1 31 := ⟨(wmem 288 (by decide +kernel) rfl), (wmem 290 (by decide +kernel) rfl), (wmem 289 (by decide +kernel) rfl), (wmem 55 (by decide +kernel) rfl)⟩
theorem la_X7_274 : LkA RX7 274 := ⟨(wmem 336 (by decide +kernel) rfl), (wmem 290 (by decide +kernel) rfl), (wmem 289 (by decide +kernel) rfl), (wmem 55 (by decide +kernel) rfl)⟩
theorem lc_X0_46 : Cond.constantLong RX0 46 (1000000000) ∈ allW := (wmem 164 (by decide +kernel) rfl)
theorem lc_X0_88 : Cond.constantLong RX0 88 (-9223372036854775808) ∈ allW := (wmem 459 (by decide +kernel) rfl)
theorem lc_X2_32 : Cond.constantLong RX2 32 (99) ∈ allW := (wmem 604 (by decide +kernel) rfl)
theorem lc_X7_117 : Cond.constantLong RX7 117 (-9223372036854775808) ∈ allW := (wmem 307 (by decide +kernel) rfl)
theorem lc_X7_189 : Cond.constant RX7 189 (-100000) ∈ allW := (wmem 449 (by decide +kernel) rfl)
theorem lc_X7_190 : Cond.constant RX7 190 (100000) ∈ allW := (wmem 450 (by decide +kernel) rfl)
theorem lc_X7_195 : Cond.constantLong RX7 195 (1000) ∈ allW := (wmem 460 (by decide +kernel) rfl)
theorem lc_X7_213 : Cond.constantLong RX7 213 (1000000000) ∈ allW := (wmem 483 (by decide +kernel) rfl)
theorem lc_X7_224 : Cond.constantLong RX7 224 (-1) ∈ allW := (wmem 506 (by decide +kernel) rfl)
theorem lc_X8_102 : Cond.constantLong RX8 102 (2) ∈ allW := (wmem 763 (by decide +kernel) rfl)
theorem lc_X8_108 : Cond.constantLong RX8 108 (1000000000) ∈ allW := (wmem 647 (by decide +kernel) rfl)
theorem lc_X8_118 : Cond.constantLong RX8 118 (8) ∈ allW := (wmem 767 (by decide +kernel) rfl)
theorem lc_X8_127 : Cond.constantLong RX8 127 (-9223372036854775808) ∈ allW := (wmem 788 (by decide +kernel) rfl)
theorem lc_X8_133 : Cond.constantLong RX8 133 (3) ∈ allW := (wmem 801 (by decide +kernel) rfl)
theorem lc_X8_135 : Cond.constantLong RX8 135 (5) ∈ allW := (wmem 809 (by decide +kernel) rfl)
theorem lc_X8_186 : Cond.constantLong RX8 186 (99) ∈ allW := (wmem 882 (by decide +kernel) rfl)
theorem lc_X8_199 : Cond.constantLong RX8 199 (-9) ∈ allW := (wmem 915 (by decide +kernel) rfl)
theorem lc_X8_201 : Cond.constantLong RX8 201 (9) ∈ allW := (wmem 916 (by decide +kernel) rfl)
theorem lc_X8_203 : Cond.constantLong RX8 203 (-100000) ∈ allW := (wmem 921 (by decide +kernel) rfl)
theorem lc_X8_205 : Cond.constantLong RX8 205 (100000) ∈ allW := (wmem 922 (by decide +kernel) rfl)
theorem lc_X8_207 : Cond.constantLong RX8 207 (-1) ∈ allW := (wmem 935 (by decide +kernel) rfl)
theorem lc_X8_209 : Cond.constantLong RX8 209 (4) ∈ allW := (wmem 931 (by decide +kernel) rfl)
theorem lc_X8_215 : Cond.constantLong RX8 215 (7919) ∈ allW := (wmem 948 (by decide +kernel) rfl)
theorem lc_X8_217 : Cond.constantLong RX8 217 (16383) ∈ allW := (wmem 949 (by decide +kernel) rfl)
theorem lc_X8_232 : Cond.constantLong RX8 232 (127) ∈ allW := (wmem 966 (by decide +kernel) rfl)
theorem lc_X8_240 : Cond.constantLong RX8 240 (48) ∈ allW := (wmem 979 (by decide +kernel) rfl)
theorem lc_X8_242 : Cond.constantLong RX8 242 (57) ∈ allW := (wmem 980 (by decide +kernel) rfl)
theorem lf_X0_15 : LkF RX0 15 0 2 := ⟨(RX0, TX0, 6), tyX0 2, rfl, by decide, (wmem 169 (by decide +kernel) rfl), inX0, tyX0_ok 2 (by decide)⟩
theorem lf_X0_40 : LkF RX0 40 0 3 := ⟨(RX0, TX0, 6), tyX0 3, rfl, by decide, (wmem 172 (by decide +kernel) rfl), inX0, tyX0_ok 3 (by decide)⟩
theorem lf_X0_48 : LkF RX0 48 0 4 := ⟨(RX0, TX0, 6), tyX0 4, rfl, by decide, (wmem 176 (by decide +kernel) rfl), inX0, tyX0_ok 4 (by decide)⟩
theorem lf_X0_51 : LkF RX0 51 0 5 := ⟨(RX0, TX0, 6), tyX0 5, rfl, by decide, (wmem 177 (by decide +kernel) rfl), inX0, tyX0_ok 5 (by decide)⟩
theorem lf_X0_9 : LkF RX0 9 0 1 := ⟨(RX0, TX0, 6), tyX0 1, rfl, by decide, (wmem 167 (by decide +kernel) rfl), inX0, tyX0_ok 1 (by decide)⟩
theorem lf_X1_11 : LkF RX1 11 1 0 := ⟨(RX1, TX1, 3), tyX1 0, rfl, by decide, (wmem 91 (by decide +kernel) rfl), inX1, tyX1_ok 0 (by decide)⟩
theorem lf_X1_15 : LkF RX1 15 1 1 := ⟨(RX1, TX1, 3), tyX1 1, rfl, by decide, (wmem 92 (by decide +kernel) rfl), inX1, tyX1_ok 1 (by decide)⟩
theorem lf_X1_18 : LkF RX1 18 1 2 := ⟨(RX1, TX1, 3), tyX1 2, rfl, by decide, (wmem 93 (by decide +kernel) rfl), inX1, tyX1_ok 2 (by decide)⟩
theorem lf_X2_11 : LkF RX2 11 2 0 := ⟨(RX2, TX2, 2), tyX2 0, rfl, by decide, (wmem 211 (by decide +kernel) rfl), inX2, tyX2_ok 0 (by decide)⟩
theorem lf_X2_15 : LkF RX2 15 2 1 := ⟨(RX2, TX2, 2), tyX2 1, rfl, by decide, (wmem 213 (by decide +kernel) rfl), inX2, tyX2_ok 1 (by decide)⟩
theorem lf_X3_12 : LkF RX3 12 3 0 := ⟨(RX3, TX3, 3), tyX3 0, rfl, by decide, (wmem 135 (by decide +kernel) rfl), inX3, tyX3_ok 0 (by decide)⟩
theorem lf_X3_18 : LkF RX3 18 3 1 := ⟨(RX3, TX3, 3), tyX3 1, rfl, by decide, (wmem 136 (by decide +kernel) rfl), inX3, tyX3_ok 1 (by decide)⟩
theorem lf_X3_21 : LkF RX3 21 3 2 := ⟨(RX3, TX3, 3), tyX3 2, rfl, by decide, (wmem 137 (by decide +kernel) rfl), inX3, tyX3_ok 2 (by decide)⟩
theorem lf_X3_31 : LkF RX3 31 0 2 := ⟨(RX0, TX0, 6), tyX0 2, rfl, by decide, (wmem 170 (by decide +kernel) rfl), inX0, tyX0_ok 2 (by decide)⟩
theorem lf_X3_35 : LkF RX3 35 5 3 := ⟨(RX5, TX5, 4), tyX5 3, rfl, by decide, (wmem 123 (by decide +kernel) rfl), inX5, tyX5_ok 3 (by decide)⟩
theorem lf_X3_43 : LkF RX3 43 0 4 := ⟨(RX0, TX0, 6), tyX0 4, rfl, by decide, (wmem 174 (by decide +kernel) rfl), inX0, tyX0_ok 4 (by decide)⟩
theorem lf_X3_58 : LkF RX3 58 5 0 := ⟨(RX5, TX5, 4), tyX5 0, rfl, by decide, (wmem 115 (by decide +kernel) rfl), inX5, tyX5_ok 0 (by decide)⟩
theorem lf_X3_61 : LkF RX3 61 5 1 := ⟨(RX5, TX5, 4), tyX5 1, rfl, by decide, (wmem 117 (by decide +kernel) rfl), inX5, tyX5_ok 1 (by decide)⟩
theorem lf_X3_64 : LkF RX3 64 5 2 := ⟨(RX5, TX5, 4), tyX5 2, rfl, by decide, (wmem 120 (by decide +kernel) rfl), inX5, tyX5_ok 2 (by decide)⟩
theorem lf_X5_13 : LkF RX5 13 5 1 := ⟨(RX5, TX5, 4), tyX5 1, rfl, by decide, (wmem 116 (by decide +kernel) rfl), inX5, tyX5_ok 1 (by decide)⟩
theorem lf_X5_16 : LkF RX5 16 5 2 := ⟨(RX5, TX5, 4), tyX5 2, rfl, by decide, (wmem 119 (by decide +kernel) rfl), inX5, tyX5_ok 2 (by decide)⟩
theorem lf_X5_20 : LkF RX5 20 5 3 := ⟨(RX5, TX5, 4), tyX5 3, rfl, by decide, (wmem 122 (by decide +kernel) rfl), inX5, tyX5_ok 3 (by decide)⟩
theorem lf_X5_9 : LkF RX5 9 5 0 := ⟨(RX5, TX5, 4), tyX5 0, rfl, by decide, (wmem 114 (by decide +kernel) rfl), inX5, tyX5_ok 0 (by decide)⟩
theorem lf_X6_11 : LkF RX6 11 6 0 := ⟨(RX6, TX6, 2), tyX6 0, rfl, by decide, (wmem 76 (by decide +kernel) rfl), inX6, tyX6_ok 0 (by decide)⟩
theorem lf_X6_15 : LkF RX6 15 6 1 := ⟨(RX6, TX6, 2), tyX6 1, rfl, by decide, (wmem 77 (by decide +kernel) rfl), inX6, tyX6_ok 1 (by decide)⟩
theorem lf_X7_110 : LkF RX7 110 0 3 := ⟨(RX0, TX0, 6), tyX0 3, rfl, by decide, (wmem 173 (by decide +kernel) rfl), inX0, tyX0_ok 3 (by decide)⟩
theorem lf_X7_119 : LkF RX7 119 0 2 := ⟨(RX0, TX0, 6), tyX0 2, rfl, by decide, (wmem 171 (by decide +kernel) rfl), inX0, tyX0_ok 2 (by decide)⟩
theorem lf_X7_123 : LkF RX7 123 0 1 := ⟨(RX0, TX0, 6), tyX0 1, rfl, by decide, (wmem 168 (by decide +kernel) rfl), inX0, tyX0_ok 1 (by decide)⟩
theorem lf_X7_126 : LkF RX7 126 0 5 := ⟨(RX0, TX0, 6), tyX0 5, rfl, by decide, (wmem 178 (by decide +kernel) rfl), inX0, tyX0_ok 5 (by decide)⟩
theorem lf_X7_13 : LkF RX7 13 7 0 := ⟨(RX7, TX7, 12), tyX7 0, rfl, by decide, (wmem 219 (by decide +kernel) rfl), inX7, tyX7_ok 0 (by decide)⟩
theorem lf_X7_141 : LkF RX7 141 0 0 := ⟨(RX0, TX0, 6), tyX0 0, rfl, by decide, (wmem 166 (by decide +kernel) rfl), inX0, tyX0_ok 0 (by decide)⟩
theorem lf_X7_144 : LkF RX7 144 4 1 := ⟨(RX4, TX4, 2), tyX4 1, rfl, by decide, (wmem 200 (by decide +kernel) rfl), inX4, tyX4_ok 1 (by decide)⟩
theorem lf_X7_19 : LkF RX7 19 7 1 := ⟨(RX7, TX7, 12), tyX7 1, rfl, by decide, (wmem 220 (by decide +kernel) rfl), inX7, tyX7_ok 1 (by decide)⟩
theorem lf_X7_219 : LkF RX7 219 5 3 := ⟨(RX5, TX5, 4), tyX5 3, rfl, by decide, (wmem 124 (by decide +kernel) rfl), inX5, tyX5_ok 3 (by decide)⟩
theorem lf_X7_226 : LkF RX7 226 5 1 := ⟨(RX5, TX5, 4), tyX5 1, rfl, by decide, (wmem 118 (by decide +kernel) rfl), inX5, tyX5_ok 1 (by decide)⟩
theorem lf_X7_229 : LkF RX7 229 5 2 := ⟨(RX5, TX5, 4), tyX5 2, rfl, by decide, (wmem 121 (by decide +kernel) rfl), inX5, tyX5_ok 2 (by decide)⟩
theorem lf_X7_238 : LkF RX7 238 6 1 := ⟨(RX6, TX6, 2), tyX6 1, rfl, by decide, (wmem 78 (by decide +kernel) rfl), inX6, tyX6_ok 1 (by decide)⟩
theorem lf_X7_246 : LkF RX7 246 1 2 := ⟨(RX1, TX1, 3), tyX1 2, rfl, by decide, (wmem 94 (by decide +kernel) rfl), inX1, tyX1_ok 2 (by decide)⟩
theorem lf_X7_25 : LkF RX7 25 7 2 := ⟨(RX7, TX7, 12), tyX7 2, rfl, by decide, (wmem 221 (by decide +kernel) rfl), inX7, tyX7_ok 2 (by decide)⟩
theorem lf_X7_268 : LkF RX7 268 2 0 := ⟨(RX2, TX2, 2), tyX2 0, rfl, by decide, (wmem 212 (by decide +kernel) rfl), inX2, tyX2_ok 0 (by decide)⟩
theorem lf_X7_32 : LkF RX7 32 7 3 := ⟨(RX7, TX7, 12), tyX7 3, rfl, by decide, (wmem 222 (by decide +kernel) rfl), inX7, tyX7_ok 3 (by decide)⟩
theorem lf_X7_39 : LkF RX7 39 7 4 := ⟨(RX7, TX7, 12), tyX7 4, rfl, by decide, (wmem 223 (by decide +kernel) rfl), inX7, tyX7_ok 4 (by decide)⟩
theorem lf_X7_46 : LkF RX7 46 7 5 := ⟨(RX7, TX7, 12), tyX7 5, rfl, by decide, (wmem 224 (by decide +kernel) rfl), inX7, tyX7_ok 5 (by decide)⟩
theorem lf_X7_50 : LkF RX7 50 7 6 := ⟨(RX7, TX7, 12), tyX7 6, rfl, by decide, (wmem 225 (by decide +kernel) rfl), inX7, tyX7_ok 6 (by decide)⟩
theorem lf_X7_53 : LkF RX7 53 7 7 := ⟨(RX7, TX7, 12), tyX7 7, rfl, by decide, (wmem 226 (by decide +kernel) rfl), inX7, tyX7_ok 7 (by decide)⟩
theorem lf_X7_56 : LkF RX7 56 7 8 := ⟨(RX7, TX7, 12), tyX7 8, rfl, by decide, (wmem 227 (by decide +kernel) rfl), inX7, tyX7_ok 8 (by decide)⟩
theorem lf_X7_60 : LkF RX7 60 7 9 := ⟨(RX7, TX7, 12), tyX7 9, rfl, by decide, (wmem 228 (by decide +kernel) rfl), inX7, tyX7_ok 9 (by decide)⟩
theorem lf_X7_64 : LkF RX7 64 7 10 := ⟨(RX7, TX7, 12), tyX7 10, rfl, by decide, (wmem 229 (by decide +kernel) rfl), inX7, tyX7_ok 10 (by decide)⟩
theorem lf_X7_67 : LkF RX7 67 7 11 := ⟨(RX7, TX7, 12), tyX7 11, rfl, by decide, (wmem 230 (by decide +kernel) rfl), inX7, tyX7_ok 11 (by decide)⟩
theorem lf_X7_91 : LkF RX7 91 4 0 := ⟨(RX4, TX4, 2), tyX4 0, rfl, by decide, (wmem 198 (by decide +kernel) rfl), inX4, tyX4_ok 0 (by decide)⟩
theorem lf_X7_98 : LkF RX7 98 0 4 := ⟨(RX0, TX0, 6), tyX0 4, rfl, by decide, (wmem 175 (by decide +kernel) rfl), inX0, tyX0_ok 4 (by decide)⟩
theorem lf_X8_11 : LkF RX8 11 8 0 := ⟨(RX8, TX8, 34), tyX8 0, rfl, by decide, (wmem 652 (by decide +kernel) rfl), inX8, tyX8_ok 0 (by decide)⟩
theorem lf_X8_15 : LkF RX8 15 8 1 := ⟨(RX8, TX8, 34), tyX8 1, rfl, by decide, (wmem 653 (by decide +kernel) rfl), inX8, tyX8_ok 1 (by decide)⟩
theorem lf_X8_178 : LkF RX8 178 8 10 := ⟨(RX8, TX8, 34), tyX8 10, rfl, by decide, (wmem 662 (by decide +kernel) rfl), inX8, tyX8_ok 10 (by decide)⟩
theorem lf_X8_18 : LkF RX8 18 8 2 := ⟨(RX8, TX8, 34), tyX8 2, rfl, by decide, (wmem 654 (by decide +kernel) rfl), inX8, tyX8_ok 2 (by decide)⟩
theorem lf_X8_21 : LkF RX8 21 8 3 := ⟨(RX8, TX8, 34), tyX8 3, rfl, by decide, (wmem 655 (by decide +kernel) rfl), inX8, tyX8_ok 3 (by decide)⟩
theorem lf_X8_219 : LkF RX8 219 8 19 := ⟨(RX8, TX8, 34), tyX8 19, rfl, by decide, (wmem 671 (by decide +kernel) rfl), inX8, tyX8_ok 19 (by decide)⟩
theorem lf_X8_222 : LkF RX8 222 8 15 := ⟨(RX8, TX8, 34), tyX8 15, rfl, by decide, (wmem 667 (by decide +kernel) rfl), inX8, tyX8_ok 15 (by decide)⟩
theorem lf_X8_234 : LkF RX8 234 8 23 := ⟨(RX8, TX8, 34), tyX8 23, rfl, by decide, (wmem 675 (by decide +kernel) rfl), inX8, tyX8_ok 23 (by decide)⟩
theorem lf_X8_237 : LkF RX8 237 8 24 := ⟨(RX8, TX8, 34), tyX8 24, rfl, by decide, (wmem 676 (by decide +kernel) rfl), inX8, tyX8_ok 24 (by decide)⟩
theorem lf_X8_25 : LkF RX8 25 8 4 := ⟨(RX8, TX8, 34), tyX8 4, rfl, by decide, (wmem 656 (by decide +kernel) rfl), inX8, tyX8_ok 4 (by decide)⟩
theorem lf_X8_257 : LkF RX8 257 8 33 := ⟨(RX8, TX8, 34), tyX8 33, rfl, by decide, (wmem 685 (by decide +kernel) rfl), inX8, tyX8_ok 33 (by decide)⟩
theorem lf_X8_28 : LkF RX8 28 8 5 := ⟨(RX8, TX8, 34), tyX8 5, rfl, by decide, (wmem 657 (by decide +kernel) rfl), inX8, tyX8_ok 5 (by decide)⟩
theorem lf_X8_31 : LkF RX8 31 8 6 := ⟨(RX8, TX8, 34), tyX8 6, rfl, by decide, (wmem 658 (by decide +kernel) rfl), inX8, tyX8_ok 6 (by decide)⟩
theorem lf_X8_34 : LkF RX8 34 8 7 := ⟨(RX8, TX8, 34), tyX8 7, rfl, by decide, (wmem 659 (by decide +kernel) rfl), inX8, tyX8_ok 7 (by decide)⟩
theorem lf_X8_37 : LkF RX8 37 8 8 := ⟨(RX8, TX8, 34), tyX8 8, rfl, by decide, (wmem 660 (by decide +kernel) rfl), inX8, tyX8_ok 8 (by decide)⟩
theorem lf_X8_40 : LkF RX8 40 8 9 := ⟨(RX8, TX8, 34), tyX8 9, rfl, by decide, (wmem 661 (by decide +kernel) rfl), inX8, tyX8_ok 9 (by decide)⟩
theorem lf_X8_43 : LkF RX8 43 8 11 := ⟨(RX8, TX8, 34), tyX8 11, rfl, by decide, (wmem 663 (by decide +kernel) rfl), inX8, tyX8_ok 11 (by decide)⟩
theorem lf_X8_46 : LkF RX8 46 8 12 := ⟨(RX8, TX8, 34), tyX8 12, rfl, by decide, (wmem 664 (by decide +kernel) rfl), inX8, tyX8_ok 12 (by decide)⟩
theorem lf_X8_49 : LkF RX8 49 8 13 := ⟨(RX8, TX8, 34), tyX8 13, rfl, by decide, (wmem 665 (by decide +kernel) rfl), inX8, tyX8_ok 13 (by decide)⟩
theorem lf_X8_52 : LkF RX8 52 8 14 := ⟨(RX8, TX8, 34), tyX8 14, rfl, by decide, (wmem 666 (by decide +kernel) rfl), inX8, tyX8_ok 14 (by decide)⟩
theorem lf_X8_55 : LkF RX8 55 8 16 := ⟨(RX8, TX8, 34), tyX8 16, rfl, by decide, (wmem 668 (by decide +kernel) rfl), inX8, tyX8_ok 16 (by decide)⟩
theorem lf_X8_58 : LkF RX8 58 8 17 := ⟨(RX8, TX8, 34), tyX8 17, rfl, by decide, (wmem 669 (by decide +kernel) rfl), inX8, tyX8_ok 17 (by decide)⟩
theorem lf_X8_61 : LkF RX8 61 8 18 := ⟨(RX8, TX8, 34), tyX8 18, rfl, by decide, (wmem 670 (by decide +kernel) rfl), inX8, tyX8_ok 18 (by decide)⟩
theorem lf_X8_64 : LkF RX8 64 8 20 := ⟨(RX8, TX8, 34), tyX8 20, rfl, by decide, (wmem 672 (by decide +kernel) rfl), inX8, tyX8_ok 20 (by decide)⟩
theorem lf_X8_67 : LkF RX8 67 8 21 := ⟨(RX8, TX8, 34), tyX8 21, rfl, by decide, (wmem 673 (by decide +kernel) rfl), inX8, tyX8_ok 21 (by decide)⟩
theorem lf_X8_70 : LkF RX8 70 8 22 := ⟨(RX8, TX8, 34), tyX8 22, rfl, by decide, (wmem 674 (by decide +kernel) rfl), inX8, tyX8_ok 22 (by decide)⟩
theorem lf_X8_73 : LkF RX8 73 8 25 := ⟨(RX8, TX8, 34), tyX8 25, rfl, by decide, (wmem 677 (by decide +kernel) rfl), inX8, tyX8_ok 25 (by decide)⟩
theorem lf_X8_77 : LkF RX8 77 8 26 := ⟨(RX8, TX8, 34), tyX8 26, rfl, by decide, (wmem 678 (by decide +kernel) rfl), inX8, tyX8_ok 26 (by decide)⟩
theorem lf_X8_80 : LkF RX8 80 8 27 := ⟨(RX8, TX8, 34), tyX8 27, rfl, by decide, (wmem 679 (by decide +kernel) rfl), inX8, tyX8_ok 27 (by decide)⟩
theorem lf_X8_83 : LkF RX8 83 8 28 := ⟨(RX8, TX8, 34), tyX8 28, rfl, by decide, (wmem 680 (by decide +kernel) rfl), inX8, tyX8_ok 28 (by decide)⟩
theorem lf_X8_86 : LkF RX8 86 8 29 := ⟨(RX8, TX8, 34), tyX8 29, rfl, by decide, (wmem 681 (by decide +kernel) rfl), inX8, tyX8_ok 29 (by decide)⟩
theorem lf_X8_89 : LkF RX8 89 8 30 := ⟨(RX8, TX8, 34), tyX8 30, rfl, by decide, (wmem 682 (by decide +kernel) rfl), inX8, tyX8_ok 30 (by decide)⟩
theorem lf_X8_92 : LkF RX8 92 8 31 := ⟨(RX8, TX8, 34), tyX8 31, rfl, by decide, (wmem 683 (by decide +kernel) rfl), inX8, tyX8_ok 31 (by decide)⟩
theorem lf_X8_95 : LkF RX8 95 8 32 := ⟨(RX8, TX8, 34), tyX8 32, rfl, by decide, (wmem 684 (by decide +kernel) rfl), inX8, tyX8_ok 32 (by decide)⟩
theorem lp_X0_40 : LkP RX0 40 0 3 .int := ⟨(RX0, TX0, 6), tyX0, rfl, by decide, (wmem 172 (by decide +kernel) rfl), inX0, tyX0_ok 3 (by decide), tyX0_ok, nmX0, rfl⟩
theorem lp_X0_48 : LkP RX0 48 0 4 .int := ⟨(RX0, TX0, 6), tyX0, rfl, by decide, (wmem 176 (by decide +kernel) rfl), inX0, tyX0_ok 4 (by decide), tyX0_ok, nmX0, rfl⟩
theorem lp_X0_51 : LkP RX0 51 0 5 .long := ⟨(RX0, TX0, 6), tyX0, rfl, by decide, (wmem 177 (by decide +kernel) rfl), inX0, tyX0_ok 5 (by decide), tyX0_ok, nmX0, rfl⟩
theorem lp_X1_18 : LkP RX1 18 1 2 .int := ⟨(RX1, TX1, 3), tyX1, rfl, by decide, (wmem 93 (by decide +kernel) rfl), inX1, tyX1_ok 2 (by decide), tyX1_ok, nmX1, rfl⟩
theorem lp_X2_15 : LkP RX2 15 2 1 .int := ⟨(RX2, TX2, 2), tyX2, rfl, by decide, (wmem 213 (by decide +kernel) rfl), inX2, tyX2_ok 1 (by decide), tyX2_ok, nmX2, rfl⟩
theorem lp_X3_12 : LkP RX3 12 3 0 (.object "SummedBases$Rests") := ⟨(RX3, TX3, 3), tyX3, rfl, by decide, (wmem 135 (by decide +kernel) rfl), inX3, tyX3_ok 0 (by decide), tyX3_ok, nmX3, rfl⟩
theorem lp_X3_18 : LkP RX3 18 3 1 (.object "SummedBases$Rests") := ⟨(RX3, TX3, 3), tyX3, rfl, by decide, (wmem 136 (by decide +kernel) rfl), inX3, tyX3_ok 1 (by decide), tyX3_ok, nmX3, rfl⟩
theorem lp_X3_35 : LkP RX3 35 5 3 .int := ⟨(RX5, TX5, 4), tyX5, rfl, by decide, (wmem 123 (by decide +kernel) rfl), inX5, tyX5_ok 3 (by decide), tyX5_ok, nmX5, rfl⟩
theorem lp_X5_20 : LkP RX5 20 5 3 .int := ⟨(RX5, TX5, 4), tyX5, rfl, by decide, (wmem 122 (by decide +kernel) rfl), inX5, tyX5_ok 3 (by decide), tyX5_ok, nmX5, rfl⟩
theorem lp_X6_15 : LkP RX6 15 6 1 .int := ⟨(RX6, TX6, 2), tyX6, rfl, by decide, (wmem 77 (by decide +kernel) rfl), inX6, tyX6_ok 1 (by decide), tyX6_ok, nmX6, rfl⟩
theorem lp_X7_238 : LkP RX7 238 6 1 .int := ⟨(RX6, TX6, 2), tyX6, rfl, by decide, (wmem 78 (by decide +kernel) rfl), inX6, tyX6_ok 1 (by decide), tyX6_ok, nmX6, rfl⟩
theorem lp_X7_246 : LkP RX7 246 1 2 .int := ⟨(RX1, TX1, 3), tyX1, rfl, by decide, (wmem 94 (by decide +kernel) rfl), inX1, tyX1_ok 2 (by decide), tyX1_ok, nmX1, rfl⟩
theorem lp_X7_56 : LkP RX7 56 7 8 .boolean := ⟨(RX7, TX7, 12), tyX7, rfl, by decide, (wmem 227 (by decide +kernel) rfl), inX7, tyX7_ok 8 (by decide), tyX7_ok, nmX7, rfl⟩
theorem lp_X7_91 : LkP RX7 91 4 0 (.object "SummedBases$Base") := ⟨(RX4, TX4, 2), tyX4, rfl, by decide, (wmem 198 (by decide +kernel) rfl), inX4, tyX4_ok 0 (by decide), tyX4_ok, nmX4, rfl⟩
theorem lp_X8_178 : LkP RX8 178 8 10 .int := ⟨(RX8, TX8, 34), tyX8, rfl, by decide, (wmem 662 (by decide +kernel) rfl), inX8, tyX8_ok 10 (by decide), tyX8_ok, nmX8, rfl⟩
theorem lp_X8_219 : LkP RX8 219 8 19 .int := ⟨(RX8, TX8, 34), tyX8, rfl, by decide, (wmem 671 (by decide +kernel) rfl), inX8, tyX8_ok 19 (by decide), tyX8_ok, nmX8, rfl⟩
theorem lp_X8_222 : LkP RX8 222 8 15 .int := ⟨(RX8, TX8, 34), tyX8, rfl, by decide, (wmem 667 (by decide +kernel) rfl), inX8, tyX8_ok 15 (by decide), tyX8_ok, nmX8, rfl⟩
theorem lp_X8_234 : LkP RX8 234 8 23 .int := ⟨(RX8, TX8, 34), tyX8, rfl, by decide, (wmem 675 (by decide +kernel) rfl), inX8, tyX8_ok 23 (by decide), tyX8_ok, nmX8, rfl⟩
theorem lp_X8_237 : LkP RX8 237 8 24 .int := ⟨(RX8, TX8, 34), tyX8, rfl, by decide, (wmem 676 (by decide +kernel) rfl), inX8, tyX8_ok 24 (by decide), tyX8_ok, nmX8, rfl⟩
theorem lp_X8_257 : LkP RX8 257 8 33 .boolean := ⟨(RX8, TX8, 34), tyX8, rfl, by decide, (wmem 685 (by decide +kernel) rfl), inX8, tyX8_ok 33 (by decide), tyX8_ok, nmX8, rfl⟩
set_option maxRecDepth 100000 in
theorem lv_X0_43 : LkV 43 0 RX0 K_X0_makeWorths := ⟨⟨(wmem 160 (by decide +kernel) rfl), (wmem 50 (by decide +kernel) rfl), (wmem 163 rfl rfl), by decide, by decide, by decide +kernel⟩, (wmem 162 (by decide +kernel) rfl), (wmem 0 (by decide +kernel) rfl)⟩
set_option maxRecDepth 100000 in
theorem lv_X0_61 : LkV 61 2 RX0 K_X0_valueBelow := ⟨⟨(wmem 367 (by decide +kernel) rfl), (wmem 50 (by decide +kernel) rfl), (wmem 370 rfl rfl), by decide, by decide, by decide +kernel⟩, (wmem 369 (by decide +kernel) rfl), (wmem 6 (by decide +kernel) rfl)⟩
set_option maxRecDepth 100000 in
theorem lv_X0_65 : LkV 65 1 RX0 K_X0_hasPlace := ⟨⟨(wmem 327 (by decide +kernel) rfl), (wmem 50 (by decide +kernel) rfl), (wmem 306 rfl rfl), by decide, by decide, by decide +kernel⟩, (wmem 304 (by decide +kernel) rfl), (wmem 305 (by decide +kernel) rfl)⟩
set_option maxRecDepth 100000 in
theorem lv_X0_72 : LkV 72 1 RX0 K_X0_carried := ⟨⟨(wmem 399 (by decide +kernel) rfl), (wmem 50 (by decide +kernel) rfl), (wmem 402 rfl rfl), by decide, by decide, by decide +kernel⟩, (wmem 401 (by decide +kernel) rfl), (wmem 9 (by decide +kernel) rfl)⟩
set_option maxRecDepth 100000 in
theorem lv_X0_76 : LkV 76 3 RX0 K_X0_canCarry := ⟨⟨(wmem 407 (by decide +kernel) rfl), (wmem 50 (by decide +kernel) rfl), (wmem 395 rfl rfl), by decide, by decide, by decide +kernel⟩, (wmem 393 (by decide +kernel) rfl), (wmem 394 (by decide +kernel) rfl)⟩
set_option maxRecDepth 100000 in
theorem lv_X0_80 : LkV 80 2 RX0 K_X0_highestCarry := ⟨⟨(wmem 421 (by decide +kernel) rfl), (wmem 50 (by decide +kernel) rfl), (wmem 424 rfl rfl), by decide, by decide, by decide +kernel⟩, (wmem 423 (by decide +kernel) rfl), (wmem 10 (by decide +kernel) rfl)⟩
set_option maxRecDepth 100000 in
theorem lv_X0_84 : LkV 84 3 RX0 K_X0_carryOnce := ⟨⟨(wmem 425 (by decide +kernel) rfl), (wmem 50 (by decide +kernel) rfl), (wmem 406 rfl rfl), by decide, by decide, by decide +kernel⟩, (wmem 404 (by decide +kernel) rfl), (wmem 405 (by decide +kernel) rfl)⟩
set_option maxRecDepth 100000 in
theorem lv_X1_22 : LkV 22 0 RX1 K_X1_dropEldest := ⟨⟨(wmem 379 (by decide +kernel) rfl), (wmem 47 (by decide +kernel) rfl), (wmem 382 rfl rfl), by decide, by decide, by decide +kernel⟩, (wmem 381 (by decide +kernel) rfl), (wmem 7 (by decide +kernel) rfl)⟩
set_option maxRecDepth 100000 in
theorem lv_X1_37 : LkV 37 2 RX1 K_X1_move := ⟨⟨(wmem 284 (by decide +kernel) rfl), (wmem 47 (by decide +kernel) rfl), (wmem 287 rfl rfl), by decide, by decide, by decide +kernel⟩, (wmem 286 (by decide +kernel) rfl), (wmem 4 (by decide +kernel) rfl)⟩
set_option maxRecDepth 100000 in
theorem lv_X2_28 : LkV 28 1 RX2 K_X2_hasPlace := ⟨⟨(wmem 603 (by decide +kernel) rfl), (wmem 53 (by decide +kernel) rfl), (wmem 582 rfl rfl), by decide, by decide, by decide +kernel⟩, (wmem 580 (by decide +kernel) rfl), (wmem 581 (by decide +kernel) rfl)⟩
set_option maxRecDepth 100000 in
theorem lv_X3_25 : LkV 25 1 RX3 K_X0_hasPlace := ⟨⟨(wmem 488 (by decide +kernel) rfl), (wmem 50 (by decide +kernel) rfl), (wmem 306 rfl rfl), by decide, by decide, by decide +kernel⟩, (wmem 304 (by decide +kernel) rfl), (wmem 305 (by decide +kernel) rfl)⟩
set_option maxRecDepth 100000 in
theorem lv_X3_39 : LkV 39 3 RX3 K_X5_add := ⟨⟨(wmem 489 (by decide +kernel) rfl), (wmem 49 (by decide +kernel) rfl), (wmem 492 rfl rfl), by decide, by decide, by decide +kernel⟩, (wmem 490 (by decide +kernel) rfl), (wmem 491 (by decide +kernel) rfl)⟩
set_option maxRecDepth 100000 in
theorem lv_X3_46 : LkV 46 3 RX3 K_X3_take := ⟨⟨(wmem 494 (by decide +kernel) rfl), (wmem 48 (by decide +kernel) rfl), (wmem 497 rfl rfl), by decide, by decide, by decide +kernel⟩, (wmem 496 (by decide +kernel) rfl), (wmem 12 (by decide +kernel) rfl)⟩
set_option maxRecDepth 100000 in
theorem lv_X3_50 : LkV 50 1 RX3 K_X3_firstFrom := ⟨⟨(wmem 498 (by decide +kernel) rfl), (wmem 48 (by decide +kernel) rfl), (wmem 501 rfl rfl), by decide, by decide, by decide +kernel⟩, (wmem 500 (by decide +kernel) rfl), (wmem 13 (by decide +kernel) rfl)⟩
set_option maxRecDepth 100000 in
theorem lv_X3_54 : LkV 54 2 RX3 K_X3_nextLeast := ⟨⟨(wmem 502 (by decide +kernel) rfl), (wmem 48 (by decide +kernel) rfl), (wmem 505 rfl rfl), by decide, by decide, by decide +kernel⟩, (wmem 504 (by decide +kernel) rfl), (wmem 14 (by decide +kernel) rfl)⟩
set_option maxRecDepth 100000 in
theorem lv_X7_106 : LkV 106 0 RX7 K_X0_kind := ⟨⟨(wmem 295 (by decide +kernel) rfl), (wmem 50 (by decide +kernel) rfl), (wmem 298 rfl rfl), by decide, by decide, by decide +kernel⟩, (wmem 296 (by decide +kernel) rfl), (wmem 297 (by decide +kernel) rfl)⟩
set_option maxRecDepth 100000 in
theorem lv_X7_113 : LkV 113 1 RX7 K_X0_hasPlace := ⟨⟨(wmem 303 (by decide +kernel) rfl), (wmem 50 (by decide +kernel) rfl), (wmem 306 rfl rfl), by decide, by decide, by decide +kernel⟩, (wmem 304 (by decide +kernel) rfl), (wmem 305 (by decide +kernel) rfl)⟩
set_option maxRecDepth 100000 in
theorem lv_X7_133 : LkV 133 2 RX7 K_X0_greedyInto := ⟨⟨(wmem 323 (by decide +kernel) rfl), (wmem 50 (by decide +kernel) rfl), (wmem 326 rfl rfl), by decide, by decide, by decide +kernel⟩, (wmem 324 (by decide +kernel) rfl), (wmem 325 (by decide +kernel) rfl)⟩
set_option maxRecDepth 100000 in
theorem lv_X7_137 : LkV 137 3 RX7 K_X7_fillReel := ⟨⟨(wmem 328 (by decide +kernel) rfl), (wmem 45 (by decide +kernel) rfl), (wmem 331 rfl rfl), by decide, by decide, by decide +kernel⟩, (wmem 330 (by decide +kernel) rfl), (wmem 5 (by decide +kernel) rfl)⟩
set_option maxRecDepth 100000 in
theorem lv_X7_147 : LkV 147 1 RX7 K_X0_allows := ⟨⟨(wmem 348 (by decide +kernel) rfl), (wmem 50 (by decide +kernel) rfl), (wmem 351 rfl rfl), by decide, by decide, by decide +kernel⟩, (wmem 349 (by decide +kernel) rfl), (wmem 350 (by decide +kernel) rfl)⟩
set_option maxRecDepth 100000 in
theorem lv_X7_158 : LkV 158 1 RX7 K_X0_valueOf := ⟨⟨(wmem 363 (by decide +kernel) rfl), (wmem 50 (by decide +kernel) rfl), (wmem 366 rfl rfl), by decide, by decide, by decide +kernel⟩, (wmem 364 (by decide +kernel) rfl), (wmem 365 (by decide +kernel) rfl)⟩
set_option maxRecDepth 100000 in
theorem lv_X7_162 : LkV 162 2 RX7 K_X1_keep := ⟨⟨(wmem 375 (by decide +kernel) rfl), (wmem 47 (by decide +kernel) rfl), (wmem 378 rfl rfl), by decide, by decide, by decide +kernel⟩, (wmem 376 (by decide +kernel) rfl), (wmem 377 (by decide +kernel) rfl)⟩
set_option maxRecDepth 100000 in
theorem lv_X7_166 : LkV 166 3 RX7 K_X7_exchange := ⟨⟨(wmem 388 (by decide +kernel) rfl), (wmem 45 (by decide +kernel) rfl), (wmem 391 rfl rfl), by decide, by decide, by decide +kernel⟩, (wmem 390 (by decide +kernel) rfl), (wmem 8 (by decide +kernel) rfl)⟩
set_option maxRecDepth 100000 in
theorem lv_X7_170 : LkV 170 2 RX7 K_X7_at := ⟨⟨(wmem 408 (by decide +kernel) rfl), (wmem 45 (by decide +kernel) rfl), (wmem 358 rfl rfl), by decide, by decide, by decide +kernel⟩, (wmem 356 (by decide +kernel) rfl), (wmem 357 (by decide +kernel) rfl)⟩
set_option maxRecDepth 100000 in
theorem lv_X7_174 : LkV 174 1 RX7 K_X0_settleAll := ⟨⟨(wmem 417 (by decide +kernel) rfl), (wmem 50 (by decide +kernel) rfl), (wmem 420 rfl rfl), by decide, by decide, by decide +kernel⟩, (wmem 418 (by decide +kernel) rfl), (wmem 419 (by decide +kernel) rfl)⟩
set_option maxRecDepth 100000 in
theorem lv_X7_177 : LkV 177 4 RX7 K_X7_turnTo := ⟨⟨(wmem 430 (by decide +kernel) rfl), (wmem 45 (by decide +kernel) rfl), (wmem 433 rfl rfl), by decide, by decide, by decide +kernel⟩, (wmem 432 (by decide +kernel) rfl), (wmem 11 (by decide +kernel) rfl)⟩
set_option maxRecDepth 100000 in
theorem lv_X7_181 : LkV 181 3 RX7 K_X0_shiftInto := ⟨⟨(wmem 441 (by decide +kernel) rfl), (wmem 50 (by decide +kernel) rfl), (wmem 444 rfl rfl), by decide, by decide, by decide +kernel⟩, (wmem 442 (by decide +kernel) rfl), (wmem 443 (by decide +kernel) rfl)⟩
set_option maxRecDepth 100000 in
theorem lv_X7_191 : LkV 191 2 RX7 K_X0_turnAhead := ⟨⟨(wmem 455 (by decide +kernel) rfl), (wmem 50 (by decide +kernel) rfl), (wmem 458 rfl rfl), by decide, by decide, by decide +kernel⟩, (wmem 456 (by decide +kernel) rfl), (wmem 457 (by decide +kernel) rfl)⟩
set_option maxRecDepth 100000 in
theorem lv_X7_205 : LkV 205 3 RX7 K_X7_write := ⟨⟨(wmem 474 (by decide +kernel) rfl), (wmem 45 (by decide +kernel) rfl), (wmem 322 rfl rfl), by decide, by decide, by decide +kernel⟩, (wmem 320 (by decide +kernel) rfl), (wmem 321 (by decide +kernel) rfl)⟩
set_option maxRecDepth 100000 in
theorem lv_X7_215 : LkV 215 3 RX7 K_X3_make := ⟨⟨(wmem 484 (by decide +kernel) rfl), (wmem 48 (by decide +kernel) rfl), (wmem 487 rfl rfl), by decide, by decide, by decide +kernel⟩, (wmem 485 (by decide +kernel) rfl), (wmem 486 (by decide +kernel) rfl)⟩
set_option maxRecDepth 100000 in
theorem lv_X7_235 : LkV 235 1 RX7 K_X6_add := ⟨⟨(wmem 523 (by decide +kernel) rfl), (wmem 46 (by decide +kernel) rfl), (wmem 526 rfl rfl), by decide, by decide, by decide +kernel⟩, (wmem 524 (by decide +kernel) rfl), (wmem 525 (by decide +kernel) rfl)⟩
set_option maxRecDepth 100000 in
theorem lv_X7_239 : LkV 239 1 RX7 K_X6_fault := ⟨⟨(wmem 531 (by decide +kernel) rfl), (wmem 46 (by decide +kernel) rfl), (wmem 534 rfl rfl), by decide, by decide, by decide +kernel⟩, (wmem 532 (by decide +kernel) rfl), (wmem 533 (by decide +kernel) rfl)⟩
set_option maxRecDepth 100000 in
theorem lv_X7_243 : LkV 243 1 RX7 K_X6_numbersInto := ⟨⟨(wmem 539 (by decide +kernel) rfl), (wmem 46 (by decide +kernel) rfl), (wmem 542 rfl rfl), by decide, by decide, by decide +kernel⟩, (wmem 540 (by decide +kernel) rfl), (wmem 541 (by decide +kernel) rfl)⟩
set_option maxRecDepth 100000 in
theorem lv_X7_249 : LkV 249 0 RX7 K_X1_latestReel := ⟨⟨(wmem 548 (by decide +kernel) rfl), (wmem 47 (by decide +kernel) rfl), (wmem 551 rfl rfl), by decide, by decide, by decide +kernel⟩, (wmem 549 (by decide +kernel) rfl), (wmem 550 (by decide +kernel) rfl)⟩
set_option maxRecDepth 100000 in
theorem lv_X7_252 : LkV 252 1 RX7 K_X1_takeLatest := ⟨⟨(wmem 553 (by decide +kernel) rfl), (wmem 47 (by decide +kernel) rfl), (wmem 556 rfl rfl), by decide, by decide, by decide +kernel⟩, (wmem 554 (by decide +kernel) rfl), (wmem 555 (by decide +kernel) rfl)⟩
set_option maxRecDepth 100000 in
theorem lv_X7_256 : LkV 256 1 RX7 K_X7_rowAt := ⟨⟨(wmem 561 (by decide +kernel) rfl), (wmem 45 (by decide +kernel) rfl), (wmem 564 rfl rfl), by decide, by decide, by decide +kernel⟩, (wmem 563 (by decide +kernel) rfl), (wmem 15 (by decide +kernel) rfl)⟩
set_option maxRecDepth 100000 in
theorem lv_X7_260 : LkV 260 1 RX7 K_X2_become := ⟨⟨(wmem 565 (by decide +kernel) rfl), (wmem 53 (by decide +kernel) rfl), (wmem 568 rfl rfl), by decide, by decide, by decide +kernel⟩, (wmem 566 (by decide +kernel) rfl), (wmem 567 (by decide +kernel) rfl)⟩
set_option maxRecDepth 100000 in
theorem lv_X7_263 : LkV 263 0 RX7 K_X2_isMissing := ⟨⟨(wmem 575 (by decide +kernel) rfl), (wmem 53 (by decide +kernel) rfl), (wmem 578 rfl rfl), by decide, by decide, by decide +kernel⟩, (wmem 576 (by decide +kernel) rfl), (wmem 577 (by decide +kernel) rfl)⟩
set_option maxRecDepth 100000 in
theorem lv_X7_267 : LkV 267 1 RX7 K_X2_hasPlace := ⟨⟨(wmem 579 (by decide +kernel) rfl), (wmem 53 (by decide +kernel) rfl), (wmem 582 rfl rfl), by decide, by decide, by decide +kernel⟩, (wmem 580 (by decide +kernel) rfl), (wmem 581 (by decide +kernel) rfl)⟩
set_option maxRecDepth 100000 in
theorem lv_X7_271 : LkV 271 2 RX7 K_X2_hasRange := ⟨⟨(wmem 591 (by decide +kernel) rfl), (wmem 53 (by decide +kernel) rfl), (wmem 594 rfl rfl), by decide, by decide, by decide +kernel⟩, (wmem 592 (by decide +kernel) rfl), (wmem 593 (by decide +kernel) rfl)⟩
set_option maxRecDepth 100000 in
theorem lv_X7_280 : LkV 280 2 RX7 K_X2_digitsInto := ⟨⟨(wmem 599 (by decide +kernel) rfl), (wmem 53 (by decide +kernel) rfl), (wmem 602 rfl rfl), by decide, by decide, by decide +kernel⟩, (wmem 600 (by decide +kernel) rfl), (wmem 601 (by decide +kernel) rfl)⟩
set_option maxRecDepth 100000 in
theorem lv_X7_288 : LkV 288 0 RX7 K_X7_countReels := ⟨⟨(wmem 621 (by decide +kernel) rfl), (wmem 45 (by decide +kernel) rfl), (wmem 624 rfl rfl), by decide, by decide, by decide +kernel⟩, (wmem 623 (by decide +kernel) rfl), (wmem 16 (by decide +kernel) rfl)⟩
set_option maxRecDepth 100000 in
theorem lv_X7_291 : LkV 291 0 RX7 K_X7_countRows := ⟨⟨(wmem 633 (by decide +kernel) rfl), (wmem 45 (by decide +kernel) rfl), (wmem 636 rfl rfl), by decide, by decide, by decide +kernel⟩, (wmem 635 (by decide +kernel) rfl), (wmem 17 (by decide +kernel) rfl)⟩
set_option maxRecDepth 100000 in
theorem lv_X7_294 : LkV 294 1 RX7 K_X1_forget := ⟨⟨(wmem 280 (by decide +kernel) rfl), (wmem 47 (by decide +kernel) rfl), (wmem 283 rfl rfl), by decide, by decide, by decide +kernel⟩, (wmem 281 (by decide +kernel) rfl), (wmem 282 (by decide +kernel) rfl)⟩
set_option maxRecDepth 100000 in
theorem lv_X7_297 : LkV 297 3 RX7 K_X0_canCarry := ⟨⟨(wmem 392 (by decide +kernel) rfl), (wmem 50 (by decide +kernel) rfl), (wmem 395 rfl rfl), by decide, by decide, by decide +kernel⟩, (wmem 393 (by decide +kernel) rfl), (wmem 394 (by decide +kernel) rfl)⟩
set_option maxRecDepth 100000 in
theorem lv_X7_301 : LkV 301 3 RX7 K_X0_carryOnce := ⟨⟨(wmem 403 (by decide +kernel) rfl), (wmem 50 (by decide +kernel) rfl), (wmem 406 rfl rfl), by decide, by decide, by decide +kernel⟩, (wmem 404 (by decide +kernel) rfl), (wmem 405 (by decide +kernel) rfl)⟩
set_option maxRecDepth 100000 in
theorem lv_X7_309 : LkV 309 1 RX7 K_X0_becomeLike := ⟨⟨(wmem 616 (by decide +kernel) rfl), (wmem 50 (by decide +kernel) rfl), (wmem 619 rfl rfl), by decide, by decide, by decide +kernel⟩, (wmem 617 (by decide +kernel) rfl), (wmem 618 (by decide +kernel) rfl)⟩
set_option maxRecDepth 100000 in
theorem lv_X7_75 : LkV 75 1 RX7 K_X7_baseAt := ⟨⟨(wmem 260 (by decide +kernel) rfl), (wmem 45 (by decide +kernel) rfl), (wmem 263 rfl rfl), by decide, by decide, by decide +kernel⟩, (wmem 262 (by decide +kernel) rfl), (wmem 1 (by decide +kernel) rfl)⟩
set_option maxRecDepth 100000 in
theorem lv_X7_83 : LkV 83 2 RX7 K_X0_tell := ⟨⟨(wmem 271 (by decide +kernel) rfl), (wmem 50 (by decide +kernel) rfl), (wmem 153 rfl rfl), by decide, by decide, by decide +kernel⟩, (wmem 151 (by decide +kernel) rfl), (wmem 152 (by decide +kernel) rfl)⟩
set_option maxRecDepth 100000 in
theorem lv_X7_87 : LkV 87 1 RX7 K_X7_reelAt := ⟨⟨(wmem 272 (by decide +kernel) rfl), (wmem 45 (by decide +kernel) rfl), (wmem 275 rfl rfl), by decide, by decide, by decide +kernel⟩, (wmem 274 (by decide +kernel) rfl), (wmem 2 (by decide +kernel) rfl)⟩
set_option maxRecDepth 100000 in
theorem lv_X7_95 : LkV 95 1 RX7 K_X7_clearReel := ⟨⟨(wmem 276 (by decide +kernel) rfl), (wmem 45 (by decide +kernel) rfl), (wmem 279 rfl rfl), by decide, by decide, by decide +kernel⟩, (wmem 278 (by decide +kernel) rfl), (wmem 3 (by decide +kernel) rfl)⟩
set_option maxRecDepth 100000 in
theorem lv_X8_110 : LkV 110 2 RX8 K_X8_step := ⟨⟨(wmem 648 (by decide +kernel) rfl), (wmem 54 (by decide +kernel) rfl), (wmem 651 rfl rfl), by decide, by decide, by decide +kernel⟩, (wmem 650 (by decide +kernel) rfl), (wmem 19 (by decide +kernel) rfl)⟩
set_option maxRecDepth 100000 in
theorem lv_X8_120 : LkV 120 1 RX8 K_X8_forgets := ⟨⟨(wmem 768 (by decide +kernel) rfl), (wmem 54 (by decide +kernel) rfl), (wmem 771 rfl rfl), by decide, by decide, by decide +kernel⟩, (wmem 770 (by decide +kernel) rfl), (wmem 20 (by decide +kernel) rfl)⟩
set_option maxRecDepth 100000 in
theorem lv_X8_123 : LkV 123 1 RX8 K_X8_kind := ⟨⟨(wmem 780 (by decide +kernel) rfl), (wmem 54 (by decide +kernel) rfl), (wmem 783 rfl rfl), by decide, by decide, by decide +kernel⟩, (wmem 782 (by decide +kernel) rfl), (wmem 22 (by decide +kernel) rfl)⟩
set_option maxRecDepth 100000 in
theorem lv_X8_129 : LkV 129 2 RX8 K_X8_worth := ⟨⟨(wmem 789 (by decide +kernel) rfl), (wmem 54 (by decide +kernel) rfl), (wmem 792 rfl rfl), by decide, by decide, by decide +kernel⟩, (wmem 791 (by decide +kernel) rfl), (wmem 23 (by decide +kernel) rfl)⟩
set_option maxRecDepth 100000 in
theorem lv_X8_137 : LkV 137 1 RX8 K_X8_high := ⟨⟨(wmem 822 (by decide +kernel) rfl), (wmem 54 (by decide +kernel) rfl), (wmem 825 rfl rfl), by decide, by decide, by decide +kernel⟩, (wmem 824 (by decide +kernel) rfl), (wmem 27 (by decide +kernel) rfl)⟩
set_option maxRecDepth 100000 in
theorem lv_X8_140 : LkV 140 2 RX8 K_X8_digitAt := ⟨⟨(wmem 826 (by decide +kernel) rfl), (wmem 54 (by decide +kernel) rfl), (wmem 829 rfl rfl), by decide, by decide, by decide +kernel⟩, (wmem 828 (by decide +kernel) rfl), (wmem 28 (by decide +kernel) rfl)⟩
set_option maxRecDepth 100000 in
theorem lv_X8_143 : LkV 143 1 RX8 K_X8_takes := ⟨⟨(wmem 818 (by decide +kernel) rfl), (wmem 54 (by decide +kernel) rfl), (wmem 821 rfl rfl), by decide, by decide, by decide +kernel⟩, (wmem 820 (by decide +kernel) rfl), (wmem 26 (by decide +kernel) rfl)⟩
set_option maxRecDepth 100000 in
theorem lv_X8_146 : LkV 146 1 RX8 K_X8_filled := ⟨⟨(wmem 830 (by decide +kernel) rfl), (wmem 54 (by decide +kernel) rfl), (wmem 833 rfl rfl), by decide, by decide, by decide +kernel⟩, (wmem 832 (by decide +kernel) rfl), (wmem 29 (by decide +kernel) rfl)⟩
set_option maxRecDepth 100000 in
theorem lv_X8_152 : LkV 152 2 RX8 K_X8_makes := ⟨⟨(wmem 810 (by decide +kernel) rfl), (wmem 54 (by decide +kernel) rfl), (wmem 813 rfl rfl), by decide, by decide, by decide +kernel⟩, (wmem 812 (by decide +kernel) rfl), (wmem 24 (by decide +kernel) rfl)⟩
set_option maxRecDepth 100000 in
theorem lv_X8_156 : LkV 156 2 RX8 K_X8_holds := ⟨⟨(wmem 814 (by decide +kernel) rfl), (wmem 54 (by decide +kernel) rfl), (wmem 817 rfl rfl), by decide, by decide, by decide +kernel⟩, (wmem 816 (by decide +kernel) rfl), (wmem 25 (by decide +kernel) rfl)⟩
set_option maxRecDepth 100000 in
theorem lv_X8_159 : LkV 159 1 RX8 K_X8_isEmpty := ⟨⟨(wmem 838 (by decide +kernel) rfl), (wmem 54 (by decide +kernel) rfl), (wmem 841 rfl rfl), by decide, by decide, by decide +kernel⟩, (wmem 840 (by decide +kernel) rfl), (wmem 30 (by decide +kernel) rfl)⟩
set_option maxRecDepth 100000 in
theorem lv_X8_162 : LkV 162 1 RX8 K_X8_refusal := ⟨⟨(wmem 862 (by decide +kernel) rfl), (wmem 54 (by decide +kernel) rfl), (wmem 865 rfl rfl), by decide, by decide, by decide +kernel⟩, (wmem 864 (by decide +kernel) rfl), (wmem 34 (by decide +kernel) rfl)⟩
set_option maxRecDepth 100000 in
theorem lv_X8_165 : LkV 165 1 RX8 K_X8_isLegal := ⟨⟨(wmem 846 (by decide +kernel) rfl), (wmem 54 (by decide +kernel) rfl), (wmem 849 rfl rfl), by decide, by decide, by decide +kernel⟩, (wmem 848 (by decide +kernel) rfl), (wmem 31 (by decide +kernel) rfl)⟩
set_option maxRecDepth 100000 in
theorem lv_X8_168 : LkV 168 1 RX8 K_X8_highest := ⟨⟨(wmem 850 (by decide +kernel) rfl), (wmem 54 (by decide +kernel) rfl), (wmem 853 rfl rfl), by decide, by decide, by decide +kernel⟩, (wmem 852 (by decide +kernel) rfl), (wmem 32 (by decide +kernel) rfl)⟩
set_option maxRecDepth 100000 in
theorem lv_X8_171 : LkV 171 3 RX8 K_X8_refusal_ := ⟨⟨(wmem 858 (by decide +kernel) rfl), (wmem 54 (by decide +kernel) rfl), (wmem 861 rfl rfl), by decide, by decide, by decide +kernel⟩, (wmem 860 (by decide +kernel) rfl), (wmem 33 (by decide +kernel) rfl)⟩
set_option maxRecDepth 100000 in
theorem lv_X8_174 : LkV 174 1 RX8 K_X8_valueOf := ⟨⟨(wmem 870 (by decide +kernel) rfl), (wmem 54 (by decide +kernel) rfl), (wmem 873 rfl rfl), by decide, by decide, by decide +kernel⟩, (wmem 872 (by decide +kernel) rfl), (wmem 35 (by decide +kernel) rfl)⟩
set_option maxRecDepth 100000 in
theorem lv_X8_182 : LkV 182 2 RX8 K_X8_moves := ⟨⟨(wmem 772 (by decide +kernel) rfl), (wmem 54 (by decide +kernel) rfl), (wmem 775 rfl rfl), by decide, by decide, by decide +kernel⟩, (wmem 774 (by decide +kernel) rfl), (wmem 21 (by decide +kernel) rfl)⟩
set_option maxRecDepth 100000 in
theorem lv_X8_188 : LkV 188 1 RX8 K_X8_does := ⟨⟨(wmem 883 (by decide +kernel) rfl), (wmem 54 (by decide +kernel) rfl), (wmem 886 rfl rfl), by decide, by decide, by decide +kernel⟩, (wmem 885 (by decide +kernel) rfl), (wmem 36 (by decide +kernel) rfl)⟩
set_option maxRecDepth 100000 in
theorem lv_X8_191 : LkV 191 3 RX8 K_X8_can := ⟨⟨(wmem 891 (by decide +kernel) rfl), (wmem 54 (by decide +kernel) rfl), (wmem 894 rfl rfl), by decide, by decide, by decide +kernel⟩, (wmem 893 (by decide +kernel) rfl), (wmem 37 (by decide +kernel) rfl)⟩
set_option maxRecDepth 100000 in
theorem lv_X8_195 : LkV 195 3 RX8 K_X8_goes := ⟨⟨(wmem 895 (by decide +kernel) rfl), (wmem 54 (by decide +kernel) rfl), (wmem 898 rfl rfl), by decide, by decide, by decide +kernel⟩, (wmem 897 (by decide +kernel) rfl), (wmem 38 (by decide +kernel) rfl)⟩
set_option maxRecDepth 100000 in
theorem lv_X8_225 : LkV 225 3 RX8 K_X8_leaves := ⟨⟨(wmem 944 (by decide +kernel) rfl), (wmem 54 (by decide +kernel) rfl), (wmem 947 rfl rfl), by decide, by decide, by decide +kernel⟩, (wmem 946 (by decide +kernel) rfl), (wmem 39 (by decide +kernel) rfl)⟩
set_option maxRecDepth 100000 in
theorem lv_X8_229 : LkV 229 1 RX8 K_X8_prints := ⟨⟨(wmem 958 (by decide +kernel) rfl), (wmem 54 (by decide +kernel) rfl), (wmem 961 rfl rfl), by decide, by decide, by decide +kernel⟩, (wmem 960 (by decide +kernel) rfl), (wmem 40 (by decide +kernel) rfl)⟩
set_option maxRecDepth 100000 in
theorem lv_X8_244 : LkV 244 0 RX8 K_X8_isFigure := ⟨⟨(wmem 975 (by decide +kernel) rfl), (wmem 54 (by decide +kernel) rfl), (wmem 978 rfl rfl), by decide, by decide, by decide +kernel⟩, (wmem 977 (by decide +kernel) rfl), (wmem 42 (by decide +kernel) rfl)⟩
set_option maxRecDepth 100000 in
theorem lv_X8_248 : LkV 248 1 RX8 K_X8_reads := ⟨⟨(wmem 971 (by decide +kernel) rfl), (wmem 54 (by decide +kernel) rfl), (wmem 974 rfl rfl), by decide, by decide, by decide +kernel⟩, (wmem 973 (by decide +kernel) rfl), (wmem 41 (by decide +kernel) rfl)⟩
set_option maxRecDepth 100000 in
theorem lv_X8_254 : LkV 254 2 RX8 K_X8_row := ⟨⟨(wmem 1008 (by decide +kernel) rfl), (wmem 54 (by decide +kernel) rfl), (wmem 984 rfl rfl), by decide, by decide, by decide +kernel⟩, (wmem 982 (by decide +kernel) rfl), (wmem 983 (by decide +kernel) rfl)⟩
set_option maxRecDepth 100000 in
theorem lv_X8_261 : LkV 261 0 RX8 K_X8_full := ⟨⟨(wmem 1013 (by decide +kernel) rfl), (wmem 54 (by decide +kernel) rfl), (wmem 1016 rfl rfl), by decide, by decide, by decide +kernel⟩, (wmem 1015 (by decide +kernel) rfl), (wmem 43 (by decide +kernel) rfl)⟩
set_option maxRecDepth 100000 in
theorem lv_X8_98 : LkV 98 1 RX8 K_X8_fills := ⟨⟨(wmem 643 (by decide +kernel) rfl), (wmem 54 (by decide +kernel) rfl), (wmem 646 rfl rfl), by decide, by decide, by decide +kernel⟩, (wmem 645 (by decide +kernel) rfl), (wmem 18 (by decide +kernel) rfl)⟩
theorem rm_X0_isDigit_X7_isWithin : RmOk K_X0_isDigit.2.2.2.2 K_X7_isWithin := ⟨rfl, rfl, Nat.le_of_ble_eq_true rfl, Nat.le_of_ble_eq_true rfl⟩
theorem rm_X0_canCarry_X0_carried : RmOk K_X0_canCarry.2.2.2.2 K_X0_carried := ⟨rfl, rfl, Nat.le_of_ble_eq_true rfl, Nat.le_of_ble_eq_true rfl⟩
theorem rm_X0_canCarry_X0_hasPlace : RmOk K_X0_canCarry.2.2.2.2 K_X0_hasPlace := ⟨rfl, rfl, Nat.le_of_ble_eq_true rfl, Nat.le_of_ble_eq_true rfl⟩
theorem rm_X0_canCarry_X0_isDigit : RmOk K_X0_canCarry.2.2.2.2 K_X0_isDigit := ⟨rfl, rfl, Nat.le_of_ble_eq_true rfl, Nat.le_of_ble_eq_true rfl⟩
theorem rm_X0_carryOnce_X0_canCarry : RmOk K_X0_carryOnce.2.2.2.2 K_X0_canCarry := ⟨rfl, rfl, Nat.le_of_ble_eq_true rfl, Nat.le_of_ble_eq_true rfl⟩
theorem rm_X0_carryOnce_X0_carried : RmOk K_X0_carryOnce.2.2.2.2 K_X0_carried := ⟨rfl, rfl, Nat.le_of_ble_eq_true rfl, Nat.le_of_ble_eq_true rfl⟩
theorem rm_X0_greedyInto_X0_hasPlace : RmOk K_X0_greedyInto.2.2.2.2 K_X0_hasPlace := ⟨rfl, rfl, Nat.le_of_ble_eq_true rfl, Nat.le_of_ble_eq_true rfl⟩
theorem rm_X0_highestCarry_X0_canCarry : RmOk K_X0_highestCarry.2.2.2.2 K_X0_canCarry := ⟨rfl, rfl, Nat.le_of_ble_eq_true rfl, Nat.le_of_ble_eq_true rfl⟩
theorem rm_X0_isRowOfSteps_X7_isWithin : RmOk K_X0_isRowOfSteps.2.2.2.2 K_X7_isWithin := ⟨rfl, rfl, Nat.le_of_ble_eq_true rfl, Nat.le_of_ble_eq_true rfl⟩
theorem rm_X0_settleAll_X0_carryOnce : RmOk K_X0_settleAll.2.2.2.2 K_X0_carryOnce := ⟨rfl, rfl, Nat.le_of_ble_eq_true rfl, Nat.le_of_ble_eq_true rfl⟩
theorem rm_X0_settleAll_X0_highestCarry : RmOk K_X0_settleAll.2.2.2.2 K_X0_highestCarry := ⟨rfl, rfl, Nat.le_of_ble_eq_true rfl, Nat.le_of_ble_eq_true rfl⟩
theorem rm_X0_shiftInto_X0_hasPlace : RmOk K_X0_shiftInto.2.2.2.2 K_X0_hasPlace := ⟨rfl, rfl, Nat.le_of_ble_eq_true rfl, Nat.le_of_ble_eq_true rfl⟩
theorem rm_X0_tell_X0_makeWorths : RmOk K_X0_tell.2.2.2.2 K_X0_makeWorths := ⟨rfl, rfl, Nat.le_of_ble_eq_true rfl, Nat.le_of_ble_eq_true rfl⟩
theorem rm_X0_turnAhead_X0_hasPlace : RmOk K_X0_turnAhead.2.2.2.2 K_X0_hasPlace := ⟨rfl, rfl, Nat.le_of_ble_eq_true rfl, Nat.le_of_ble_eq_true rfl⟩
theorem rm_X0_turnAhead_X0_valueBelow : RmOk K_X0_turnAhead.2.2.2.2 K_X0_valueBelow := ⟨rfl, rfl, Nat.le_of_ble_eq_true rfl, Nat.le_of_ble_eq_true rfl⟩
theorem rm_X0_valueOf_X0_valueBelow : RmOk K_X0_valueOf.2.2.2.2 K_X0_valueBelow := ⟨rfl, rfl, Nat.le_of_ble_eq_true rfl, Nat.le_of_ble_eq_true rfl⟩
theorem rm_X1_dropEldest_X1_move : RmOk K_X1_dropEldest.2.2.2.2 K_X1_move := ⟨rfl, rfl, Nat.le_of_ble_eq_true rfl, Nat.le_of_ble_eq_true rfl⟩
theorem rm_X1_forget_X1_move : RmOk K_X1_forget.2.2.2.2 K_X1_move := ⟨rfl, rfl, Nat.le_of_ble_eq_true rfl, Nat.le_of_ble_eq_true rfl⟩
theorem rm_X1_keep_X1_dropEldest : RmOk K_X1_keep.2.2.2.2 K_X1_dropEldest := ⟨rfl, rfl, Nat.le_of_ble_eq_true rfl, Nat.le_of_ble_eq_true rfl⟩
theorem rm_X1_latestReel_X7_isWithin : RmOk K_X1_latestReel.2.2.2.2 K_X7_isWithin := ⟨rfl, rfl, Nat.le_of_ble_eq_true rfl, Nat.le_of_ble_eq_true rfl⟩
theorem rm_X1_takeLatest_X7_isWithin : RmOk K_X1_takeLatest.2.2.2.2 K_X7_isWithin := ⟨rfl, rfl, Nat.le_of_ble_eq_true rfl, Nat.le_of_ble_eq_true rfl⟩
theorem rm_X2_digitsInto_X2_hasPlace : RmOk K_X2_digitsInto.2.2.2.2 K_X2_hasPlace := ⟨rfl, rfl, Nat.le_of_ble_eq_true rfl, Nat.le_of_ble_eq_true rfl⟩
theorem rm_X3_take_X3_firstFrom : RmOk K_X3_take.2.2.2.2 K_X3_firstFrom := ⟨rfl, rfl, Nat.le_of_ble_eq_true rfl, Nat.le_of_ble_eq_true rfl⟩
theorem rm_X3_take_X3_nextLeast : RmOk K_X3_take.2.2.2.2 K_X3_nextLeast := ⟨rfl, rfl, Nat.le_of_ble_eq_true rfl, Nat.le_of_ble_eq_true rfl⟩
theorem rm_X3_take_X5_add : RmOk K_X3_take.2.2.2.2 K_X5_add := ⟨rfl, rfl, Nat.le_of_ble_eq_true rfl, Nat.le_of_ble_eq_true rfl⟩
theorem rm_X3_make_X0_hasPlace : RmOk K_X3_make.2.2.2.2 K_X0_hasPlace := ⟨rfl, rfl, Nat.le_of_ble_eq_true rfl, Nat.le_of_ble_eq_true rfl⟩
theorem rm_X3_make_X3_take : RmOk K_X3_make.2.2.2.2 K_X3_take := ⟨rfl, rfl, Nat.le_of_ble_eq_true rfl, Nat.le_of_ble_eq_true rfl⟩
theorem rm_X3_make_X5_add : RmOk K_X3_make.2.2.2.2 K_X5_add := ⟨rfl, rfl, Nat.le_of_ble_eq_true rfl, Nat.le_of_ble_eq_true rfl⟩
theorem rm_X6_isFigure_X7_isWithin : RmOk K_X6_isFigure.2.2.2.2 K_X7_isWithin := ⟨rfl, rfl, Nat.le_of_ble_eq_true rfl, Nat.le_of_ble_eq_true rfl⟩
theorem rm_X6_fault_X6_isFigure : RmOk K_X6_fault.2.2.2.2 K_X6_isFigure := ⟨rfl, rfl, Nat.le_of_ble_eq_true rfl, Nat.le_of_ble_eq_true rfl⟩
theorem rm_X7_reelAt_X7_isWithin : RmOk K_X7_reelAt.2.2.2.2 K_X7_isWithin := ⟨rfl, rfl, Nat.le_of_ble_eq_true rfl, Nat.le_of_ble_eq_true rfl⟩
theorem rm_X7_at_X0_hasPlace : RmOk K_X7_at.2.2.2.2 K_X0_hasPlace := ⟨rfl, rfl, Nat.le_of_ble_eq_true rfl, Nat.le_of_ble_eq_true rfl⟩
theorem rm_X7_at_X7_reelAt : RmOk K_X7_at.2.2.2.2 K_X7_reelAt := ⟨rfl, rfl, Nat.le_of_ble_eq_true rfl, Nat.le_of_ble_eq_true rfl⟩
theorem rm_X7_back_X1_latestReel : RmOk K_X7_back.2.2.2.2 K_X1_latestReel := ⟨rfl, rfl, Nat.le_of_ble_eq_true rfl, Nat.le_of_ble_eq_true rfl⟩
theorem rm_X7_back_X1_takeLatest : RmOk K_X7_back.2.2.2.2 K_X1_takeLatest := ⟨rfl, rfl, Nat.le_of_ble_eq_true rfl, Nat.le_of_ble_eq_true rfl⟩
theorem rm_X7_back_X7_reelAt : RmOk K_X7_back.2.2.2.2 K_X7_reelAt := ⟨rfl, rfl, Nat.le_of_ble_eq_true rfl, Nat.le_of_ble_eq_true rfl⟩
theorem rm_X7_baseAt_X7_isWithin : RmOk K_X7_baseAt.2.2.2.2 K_X7_isWithin := ⟨rfl, rfl, Nat.le_of_ble_eq_true rfl, Nat.le_of_ble_eq_true rfl⟩
theorem rm_X7_clearReel_X1_forget : RmOk K_X7_clearReel.2.2.2.2 K_X1_forget := ⟨rfl, rfl, Nat.le_of_ble_eq_true rfl, Nat.le_of_ble_eq_true rfl⟩
theorem rm_X7_clearReel_X7_reelAt : RmOk K_X7_clearReel.2.2.2.2 K_X7_reelAt := ⟨rfl, rfl, Nat.le_of_ble_eq_true rfl, Nat.le_of_ble_eq_true rfl⟩
theorem rm_X7_base_X0_isRowOfSteps : RmOk K_X7_base.2.2.2.2 K_X0_isRowOfSteps := ⟨rfl, rfl, Nat.le_of_ble_eq_true rfl, Nat.le_of_ble_eq_true rfl⟩
theorem rm_X7_base_X0_tell : RmOk K_X7_base.2.2.2.2 K_X0_tell := ⟨rfl, rfl, Nat.le_of_ble_eq_true rfl, Nat.le_of_ble_eq_true rfl⟩
theorem rm_X7_base_X7_baseAt : RmOk K_X7_base.2.2.2.2 K_X7_baseAt := ⟨rfl, rfl, Nat.le_of_ble_eq_true rfl, Nat.le_of_ble_eq_true rfl⟩
theorem rm_X7_base_X7_clearReel : RmOk K_X7_base.2.2.2.2 K_X7_clearReel := ⟨rfl, rfl, Nat.le_of_ble_eq_true rfl, Nat.le_of_ble_eq_true rfl⟩
theorem rm_X7_base_X7_reelAt : RmOk K_X7_base.2.2.2.2 K_X7_reelAt := ⟨rfl, rfl, Nat.le_of_ble_eq_true rfl, Nat.le_of_ble_eq_true rfl⟩
theorem rm_X7_exchange_X0_canCarry : RmOk K_X7_exchange.2.2.2.2 K_X0_canCarry := ⟨rfl, rfl, Nat.le_of_ble_eq_true rfl, Nat.le_of_ble_eq_true rfl⟩
theorem rm_X7_exchange_X0_carryOnce : RmOk K_X7_exchange.2.2.2.2 K_X0_carryOnce := ⟨rfl, rfl, Nat.le_of_ble_eq_true rfl, Nat.le_of_ble_eq_true rfl⟩
theorem rm_X7_exchange_X1_keep : RmOk K_X7_exchange.2.2.2.2 K_X1_keep := ⟨rfl, rfl, Nat.le_of_ble_eq_true rfl, Nat.le_of_ble_eq_true rfl⟩
theorem rm_X7_exchange_X7_isWithin : RmOk K_X7_exchange.2.2.2.2 K_X7_isWithin := ⟨rfl, rfl, Nat.le_of_ble_eq_true rfl, Nat.le_of_ble_eq_true rfl⟩
theorem rm_X7_exchange_X7_reelAt : RmOk K_X7_exchange.2.2.2.2 K_X7_reelAt := ⟨rfl, rfl, Nat.le_of_ble_eq_true rfl, Nat.le_of_ble_eq_true rfl⟩
theorem rm_X7_borrow_X7_at : RmOk K_X7_borrow.2.2.2.2 K_X7_at := ⟨rfl, rfl, Nat.le_of_ble_eq_true rfl, Nat.le_of_ble_eq_true rfl⟩
theorem rm_X7_borrow_X7_exchange : RmOk K_X7_borrow.2.2.2.2 K_X7_exchange := ⟨rfl, rfl, Nat.le_of_ble_eq_true rfl, Nat.le_of_ble_eq_true rfl⟩
theorem rm_X7_carry_X7_at : RmOk K_X7_carry.2.2.2.2 K_X7_at := ⟨rfl, rfl, Nat.le_of_ble_eq_true rfl, Nat.le_of_ble_eq_true rfl⟩
theorem rm_X7_carry_X7_exchange : RmOk K_X7_carry.2.2.2.2 K_X7_exchange := ⟨rfl, rfl, Nat.le_of_ble_eq_true rfl, Nat.le_of_ble_eq_true rfl⟩
theorem rm_X7_carryState_X0_becomeLike : RmOk K_X7_carryState.2.2.2.2 K_X0_becomeLike := ⟨rfl, rfl, Nat.le_of_ble_eq_true rfl, Nat.le_of_ble_eq_true rfl⟩
theorem rm_X7_carryState_X7_copyDigits : RmOk K_X7_carryState.2.2.2.2 K_X7_copyDigits := ⟨rfl, rfl, Nat.le_of_ble_eq_true rfl, Nat.le_of_ble_eq_true rfl⟩
theorem rm_X7_rowAt_X7_isWithin : RmOk K_X7_rowAt.2.2.2.2 K_X7_isWithin := ⟨rfl, rfl, Nat.le_of_ble_eq_true rfl, Nat.le_of_ble_eq_true rfl⟩
theorem rm_X7_copy_X2_hasRange : RmOk K_X7_copy.2.2.2.2 K_X2_hasRange := ⟨rfl, rfl, Nat.le_of_ble_eq_true rfl, Nat.le_of_ble_eq_true rfl⟩
theorem rm_X7_copy_X2_isMissing : RmOk K_X7_copy.2.2.2.2 K_X2_isMissing := ⟨rfl, rfl, Nat.le_of_ble_eq_true rfl, Nat.le_of_ble_eq_true rfl⟩
theorem rm_X7_copy_X7_rowAt : RmOk K_X7_copy.2.2.2.2 K_X7_rowAt := ⟨rfl, rfl, Nat.le_of_ble_eq_true rfl, Nat.le_of_ble_eq_true rfl⟩
theorem rm_X7_countReels_X7_reelAt : RmOk K_X7_countReels.2.2.2.2 K_X7_reelAt := ⟨rfl, rfl, Nat.le_of_ble_eq_true rfl, Nat.le_of_ble_eq_true rfl⟩
theorem rm_X7_countRows_X2_isMissing : RmOk K_X7_countRows.2.2.2.2 K_X2_isMissing := ⟨rfl, rfl, Nat.le_of_ble_eq_true rfl, Nat.le_of_ble_eq_true rfl⟩
theorem rm_X7_countRows_X7_rowAt : RmOk K_X7_countRows.2.2.2.2 K_X7_rowAt := ⟨rfl, rfl, Nat.le_of_ble_eq_true rfl, Nat.le_of_ble_eq_true rfl⟩
theorem rm_X7_count_X7_countReels : RmOk K_X7_count.2.2.2.2 K_X7_countReels := ⟨rfl, rfl, Nat.le_of_ble_eq_true rfl, Nat.le_of_ble_eq_true rfl⟩
theorem rm_X7_count_X7_countRows : RmOk K_X7_count.2.2.2.2 K_X7_countRows := ⟨rfl, rfl, Nat.le_of_ble_eq_true rfl, Nat.le_of_ble_eq_true rfl⟩
theorem rm_X7_crossed_X0_greedyInto : RmOk K_X7_crossed.2.2.2.2 K_X0_greedyInto := ⟨rfl, rfl, Nat.le_of_ble_eq_true rfl, Nat.le_of_ble_eq_true rfl⟩
theorem rm_X7_crossed_X0_hasPlace : RmOk K_X7_crossed.2.2.2.2 K_X0_hasPlace := ⟨rfl, rfl, Nat.le_of_ble_eq_true rfl, Nat.le_of_ble_eq_true rfl⟩
theorem rm_X7_crossed_X7_baseAt : RmOk K_X7_crossed.2.2.2.2 K_X7_baseAt := ⟨rfl, rfl, Nat.le_of_ble_eq_true rfl, Nat.le_of_ble_eq_true rfl⟩
theorem rm_X7_digit_X0_hasPlace : RmOk K_X7_digit.2.2.2.2 K_X0_hasPlace := ⟨rfl, rfl, Nat.le_of_ble_eq_true rfl, Nat.le_of_ble_eq_true rfl⟩
theorem rm_X7_digit_X1_keep : RmOk K_X7_digit.2.2.2.2 K_X1_keep := ⟨rfl, rfl, Nat.le_of_ble_eq_true rfl, Nat.le_of_ble_eq_true rfl⟩
theorem rm_X7_digit_X7_isWithin : RmOk K_X7_digit.2.2.2.2 K_X7_isWithin := ⟨rfl, rfl, Nat.le_of_ble_eq_true rfl, Nat.le_of_ble_eq_true rfl⟩
theorem rm_X7_digit_X7_reelAt : RmOk K_X7_digit.2.2.2.2 K_X7_reelAt := ⟨rfl, rfl, Nat.le_of_ble_eq_true rfl, Nat.le_of_ble_eq_true rfl⟩
theorem rm_X7_empty_X7_clearReel : RmOk K_X7_empty.2.2.2.2 K_X7_clearReel := ⟨rfl, rfl, Nat.le_of_ble_eq_true rfl, Nat.le_of_ble_eq_true rfl⟩
theorem rm_X7_empty_X7_reelAt : RmOk K_X7_empty.2.2.2.2 K_X7_reelAt := ⟨rfl, rfl, Nat.le_of_ble_eq_true rfl, Nat.le_of_ble_eq_true rfl⟩
theorem rm_X7_feed_X6_add : RmOk K_X7_feed.2.2.2.2 K_X6_add := ⟨rfl, rfl, Nat.le_of_ble_eq_true rfl, Nat.le_of_ble_eq_true rfl⟩
theorem rm_X7_feed_X7_isWithin : RmOk K_X7_feed.2.2.2.2 K_X7_isWithin := ⟨rfl, rfl, Nat.le_of_ble_eq_true rfl, Nat.le_of_ble_eq_true rfl⟩
theorem rm_X7_fillReel_X1_forget : RmOk K_X7_fillReel.2.2.2.2 K_X1_forget := ⟨rfl, rfl, Nat.le_of_ble_eq_true rfl, Nat.le_of_ble_eq_true rfl⟩
theorem rm_X7_fillReel_X7_copyDigits : RmOk K_X7_fillReel.2.2.2.2 K_X7_copyDigits := ⟨rfl, rfl, Nat.le_of_ble_eq_true rfl, Nat.le_of_ble_eq_true rfl⟩
theorem rm_X7_fillReel_X7_countNotZero : RmOk K_X7_fillReel.2.2.2.2 K_X7_countNotZero := ⟨rfl, rfl, Nat.le_of_ble_eq_true rfl, Nat.le_of_ble_eq_true rfl⟩
theorem rm_X7_fillReel_X7_reelAt : RmOk K_X7_fillReel.2.2.2.2 K_X7_reelAt := ⟨rfl, rfl, Nat.le_of_ble_eq_true rfl, Nat.le_of_ble_eq_true rfl⟩
theorem rm_X7_film_X2_become : RmOk K_X7_film.2.2.2.2 K_X2_become := ⟨rfl, rfl, Nat.le_of_ble_eq_true rfl, Nat.le_of_ble_eq_true rfl⟩
theorem rm_X7_film_X2_hasPlace : RmOk K_X7_film.2.2.2.2 K_X2_hasPlace := ⟨rfl, rfl, Nat.le_of_ble_eq_true rfl, Nat.le_of_ble_eq_true rfl⟩
theorem rm_X7_film_X7_reelAt : RmOk K_X7_film.2.2.2.2 K_X7_reelAt := ⟨rfl, rfl, Nat.le_of_ble_eq_true rfl, Nat.le_of_ble_eq_true rfl⟩
theorem rm_X7_film_X7_rowAt : RmOk K_X7_film.2.2.2.2 K_X7_rowAt := ⟨rfl, rfl, Nat.le_of_ble_eq_true rfl, Nat.le_of_ble_eq_true rfl⟩
theorem rm_X7_get_X2_hasPlace : RmOk K_X7_get.2.2.2.2 K_X2_hasPlace := ⟨rfl, rfl, Nat.le_of_ble_eq_true rfl, Nat.le_of_ble_eq_true rfl⟩
theorem rm_X7_get_X7_rowAt : RmOk K_X7_get.2.2.2.2 K_X7_rowAt := ⟨rfl, rfl, Nat.le_of_ble_eq_true rfl, Nat.le_of_ble_eq_true rfl⟩
theorem rm_X7_image_X7_carryState : RmOk K_X7_image.2.2.2.2 K_X7_carryState := ⟨rfl, rfl, Nat.le_of_ble_eq_true rfl, Nat.le_of_ble_eq_true rfl⟩
theorem rm_X7_image_X7_countReels : RmOk K_X7_image.2.2.2.2 K_X7_countReels := ⟨rfl, rfl, Nat.le_of_ble_eq_true rfl, Nat.le_of_ble_eq_true rfl⟩
theorem rm_X7_lay_X2_digitsInto : RmOk K_X7_lay.2.2.2.2 K_X2_digitsInto := ⟨rfl, rfl, Nat.le_of_ble_eq_true rfl, Nat.le_of_ble_eq_true rfl⟩
theorem rm_X7_lay_X2_isMissing : RmOk K_X7_lay.2.2.2.2 K_X2_isMissing := ⟨rfl, rfl, Nat.le_of_ble_eq_true rfl, Nat.le_of_ble_eq_true rfl⟩
theorem rm_X7_lay_X7_baseAt : RmOk K_X7_lay.2.2.2.2 K_X7_baseAt := ⟨rfl, rfl, Nat.le_of_ble_eq_true rfl, Nat.le_of_ble_eq_true rfl⟩
theorem rm_X7_lay_X7_fillReel : RmOk K_X7_lay.2.2.2.2 K_X7_fillReel := ⟨rfl, rfl, Nat.le_of_ble_eq_true rfl, Nat.le_of_ble_eq_true rfl⟩
theorem rm_X7_lay_X7_reelAt : RmOk K_X7_lay.2.2.2.2 K_X7_reelAt := ⟨rfl, rfl, Nat.le_of_ble_eq_true rfl, Nat.le_of_ble_eq_true rfl⟩
theorem rm_X7_lay_X7_rowAt : RmOk K_X7_lay.2.2.2.2 K_X7_rowAt := ⟨rfl, rfl, Nat.le_of_ble_eq_true rfl, Nat.le_of_ble_eq_true rfl⟩
theorem rm_X7_like_X0_valueOf : RmOk K_X7_like.2.2.2.2 K_X0_valueOf := ⟨rfl, rfl, Nat.le_of_ble_eq_true rfl, Nat.le_of_ble_eq_true rfl⟩
theorem rm_X7_like_X7_countUnlike : RmOk K_X7_like.2.2.2.2 K_X7_countUnlike := ⟨rfl, rfl, Nat.le_of_ble_eq_true rfl, Nat.le_of_ble_eq_true rfl⟩
theorem rm_X7_like_X7_isWithin : RmOk K_X7_like.2.2.2.2 K_X7_isWithin := ⟨rfl, rfl, Nat.le_of_ble_eq_true rfl, Nat.le_of_ble_eq_true rfl⟩
theorem rm_X7_like_X7_reelAt : RmOk K_X7_like.2.2.2.2 K_X7_reelAt := ⟨rfl, rfl, Nat.le_of_ble_eq_true rfl, Nat.le_of_ble_eq_true rfl⟩
theorem rm_X7_of_X0_kind : RmOk K_X7_of.2.2.2.2 K_X0_kind := ⟨rfl, rfl, Nat.le_of_ble_eq_true rfl, Nat.le_of_ble_eq_true rfl⟩
theorem rm_X7_of_X7_baseAt : RmOk K_X7_of.2.2.2.2 K_X7_baseAt := ⟨rfl, rfl, Nat.le_of_ble_eq_true rfl, Nat.le_of_ble_eq_true rfl⟩
theorem rm_X7_of_X7_isWithin : RmOk K_X7_of.2.2.2.2 K_X7_isWithin := ⟨rfl, rfl, Nat.le_of_ble_eq_true rfl, Nat.le_of_ble_eq_true rfl⟩
theorem rm_X7_turnTo_X0_greedyInto : RmOk K_X7_turnTo.2.2.2.2 K_X0_greedyInto := ⟨rfl, rfl, Nat.le_of_ble_eq_true rfl, Nat.le_of_ble_eq_true rfl⟩
theorem rm_X7_turnTo_X1_keep : RmOk K_X7_turnTo.2.2.2.2 K_X1_keep := ⟨rfl, rfl, Nat.le_of_ble_eq_true rfl, Nat.le_of_ble_eq_true rfl⟩
theorem rm_X7_turnTo_X7_copyDigits : RmOk K_X7_turnTo.2.2.2.2 K_X7_copyDigits := ⟨rfl, rfl, Nat.le_of_ble_eq_true rfl, Nat.le_of_ble_eq_true rfl⟩
theorem rm_X7_turnTo_X7_countUnlike : RmOk K_X7_turnTo.2.2.2.2 K_X7_countUnlike := ⟨rfl, rfl, Nat.le_of_ble_eq_true rfl, Nat.le_of_ble_eq_true rfl⟩
theorem rm_X7_on_X0_allows : RmOk K_X7_on.2.2.2.2 K_X0_allows := ⟨rfl, rfl, Nat.le_of_ble_eq_true rfl, Nat.le_of_ble_eq_true rfl⟩
theorem rm_X7_on_X0_valueOf : RmOk K_X7_on.2.2.2.2 K_X0_valueOf := ⟨rfl, rfl, Nat.le_of_ble_eq_true rfl, Nat.le_of_ble_eq_true rfl⟩
theorem rm_X7_on_X7_isWithin : RmOk K_X7_on.2.2.2.2 K_X7_isWithin := ⟨rfl, rfl, Nat.le_of_ble_eq_true rfl, Nat.le_of_ble_eq_true rfl⟩
theorem rm_X7_on_X7_reelAt : RmOk K_X7_on.2.2.2.2 K_X7_reelAt := ⟨rfl, rfl, Nat.le_of_ble_eq_true rfl, Nat.le_of_ble_eq_true rfl⟩
theorem rm_X7_on_X7_turnTo : RmOk K_X7_on.2.2.2.2 K_X7_turnTo := ⟨rfl, rfl, Nat.le_of_ble_eq_true rfl, Nat.le_of_ble_eq_true rfl⟩
theorem rm_X7_printInto_X7_highestNotZero : RmOk K_X7_printInto.2.2.2.2 K_X7_highestNotZero := ⟨rfl, rfl, Nat.le_of_ble_eq_true rfl, Nat.le_of_ble_eq_true rfl⟩
theorem rm_X7_print_X7_printInto : RmOk K_X7_print.2.2.2.2 K_X7_printInto := ⟨rfl, rfl, Nat.le_of_ble_eq_true rfl, Nat.le_of_ble_eq_true rfl⟩
theorem rm_X7_print_X7_reelAt : RmOk K_X7_print.2.2.2.2 K_X7_reelAt := ⟨rfl, rfl, Nat.le_of_ble_eq_true rfl, Nat.le_of_ble_eq_true rfl⟩
theorem rm_X7_put_X2_hasPlace : RmOk K_X7_put.2.2.2.2 K_X2_hasPlace := ⟨rfl, rfl, Nat.le_of_ble_eq_true rfl, Nat.le_of_ble_eq_true rfl⟩
theorem rm_X7_put_X2_isMissing : RmOk K_X7_put.2.2.2.2 K_X2_isMissing := ⟨rfl, rfl, Nat.le_of_ble_eq_true rfl, Nat.le_of_ble_eq_true rfl⟩
theorem rm_X7_put_X7_rowAt : RmOk K_X7_put.2.2.2.2 K_X7_rowAt := ⟨rfl, rfl, Nat.le_of_ble_eq_true rfl, Nat.le_of_ble_eq_true rfl⟩
theorem rm_X7_read_X6_fault : RmOk K_X7_read.2.2.2.2 K_X6_fault := ⟨rfl, rfl, Nat.le_of_ble_eq_true rfl, Nat.le_of_ble_eq_true rfl⟩
theorem rm_X7_read_X6_numbersInto : RmOk K_X7_read.2.2.2.2 K_X6_numbersInto := ⟨rfl, rfl, Nat.le_of_ble_eq_true rfl, Nat.le_of_ble_eq_true rfl⟩
theorem rm_X7_read_X7_baseAt : RmOk K_X7_read.2.2.2.2 K_X7_baseAt := ⟨rfl, rfl, Nat.le_of_ble_eq_true rfl, Nat.le_of_ble_eq_true rfl⟩
theorem rm_X7_read_X7_fillReel : RmOk K_X7_read.2.2.2.2 K_X7_fillReel := ⟨rfl, rfl, Nat.le_of_ble_eq_true rfl, Nat.le_of_ble_eq_true rfl⟩
theorem rm_X7_read_X7_reelAt : RmOk K_X7_read.2.2.2.2 K_X7_reelAt := ⟨rfl, rfl, Nat.le_of_ble_eq_true rfl, Nat.le_of_ble_eq_true rfl⟩
theorem rm_X7_reckon_X7_times : RmOk K_X7_reckon.2.2.2.2 K_X7_times := ⟨rfl, rfl, Nat.le_of_ble_eq_true rfl, Nat.le_of_ble_eq_true rfl⟩
theorem rm_X7_right_X0_valueOf : RmOk K_X7_right.2.2.2.2 K_X0_valueOf := ⟨rfl, rfl, Nat.le_of_ble_eq_true rfl, Nat.le_of_ble_eq_true rfl⟩
theorem rm_X7_right_X7_reelAt : RmOk K_X7_right.2.2.2.2 K_X7_reelAt := ⟨rfl, rfl, Nat.le_of_ble_eq_true rfl, Nat.le_of_ble_eq_true rfl⟩
theorem rm_X7_right_X7_turnTo : RmOk K_X7_right.2.2.2.2 K_X7_turnTo := ⟨rfl, rfl, Nat.le_of_ble_eq_true rfl, Nat.le_of_ble_eq_true rfl⟩
theorem rm_X7_row_X2_become : RmOk K_X7_row.2.2.2.2 K_X2_become := ⟨rfl, rfl, Nat.le_of_ble_eq_true rfl, Nat.le_of_ble_eq_true rfl⟩
theorem rm_X7_row_X7_rowAt : RmOk K_X7_row.2.2.2.2 K_X7_rowAt := ⟨rfl, rfl, Nat.le_of_ble_eq_true rfl, Nat.le_of_ble_eq_true rfl⟩
theorem rm_X7_settle_X0_settleAll : RmOk K_X7_settle.2.2.2.2 K_X0_settleAll := ⟨rfl, rfl, Nat.le_of_ble_eq_true rfl, Nat.le_of_ble_eq_true rfl⟩
theorem rm_X7_settle_X1_keep : RmOk K_X7_settle.2.2.2.2 K_X1_keep := ⟨rfl, rfl, Nat.le_of_ble_eq_true rfl, Nat.le_of_ble_eq_true rfl⟩
theorem rm_X7_settle_X7_reelAt : RmOk K_X7_settle.2.2.2.2 K_X7_reelAt := ⟨rfl, rfl, Nat.le_of_ble_eq_true rfl, Nat.le_of_ble_eq_true rfl⟩
theorem rm_X7_shift_X0_shiftInto : RmOk K_X7_shift.2.2.2.2 K_X0_shiftInto := ⟨rfl, rfl, Nat.le_of_ble_eq_true rfl, Nat.le_of_ble_eq_true rfl⟩
theorem rm_X7_shift_X1_keep : RmOk K_X7_shift.2.2.2.2 K_X1_keep := ⟨rfl, rfl, Nat.le_of_ble_eq_true rfl, Nat.le_of_ble_eq_true rfl⟩
theorem rm_X7_shift_X7_copyDigits : RmOk K_X7_shift.2.2.2.2 K_X7_copyDigits := ⟨rfl, rfl, Nat.le_of_ble_eq_true rfl, Nat.le_of_ble_eq_true rfl⟩
theorem rm_X7_shift_X7_countNotZero : RmOk K_X7_shift.2.2.2.2 K_X7_countNotZero := ⟨rfl, rfl, Nat.le_of_ble_eq_true rfl, Nat.le_of_ble_eq_true rfl⟩
theorem rm_X7_shift_X7_isWithin : RmOk K_X7_shift.2.2.2.2 K_X7_isWithin := ⟨rfl, rfl, Nat.le_of_ble_eq_true rfl, Nat.le_of_ble_eq_true rfl⟩
theorem rm_X7_shift_X7_reelAt : RmOk K_X7_shift.2.2.2.2 K_X7_reelAt := ⟨rfl, rfl, Nat.le_of_ble_eq_true rfl, Nat.le_of_ble_eq_true rfl⟩
theorem rm_X7_soon_X0_allows : RmOk K_X7_soon.2.2.2.2 K_X0_allows := ⟨rfl, rfl, Nat.le_of_ble_eq_true rfl, Nat.le_of_ble_eq_true rfl⟩
theorem rm_X7_soon_X0_hasPlace : RmOk K_X7_soon.2.2.2.2 K_X0_hasPlace := ⟨rfl, rfl, Nat.le_of_ble_eq_true rfl, Nat.le_of_ble_eq_true rfl⟩
theorem rm_X7_soon_X0_turnAhead : RmOk K_X7_soon.2.2.2.2 K_X0_turnAhead := ⟨rfl, rfl, Nat.le_of_ble_eq_true rfl, Nat.le_of_ble_eq_true rfl⟩
theorem rm_X7_soon_X0_valueOf : RmOk K_X7_soon.2.2.2.2 K_X0_valueOf := ⟨rfl, rfl, Nat.le_of_ble_eq_true rfl, Nat.le_of_ble_eq_true rfl⟩
theorem rm_X7_soon_X7_reelAt : RmOk K_X7_soon.2.2.2.2 K_X7_reelAt := ⟨rfl, rfl, Nat.le_of_ble_eq_true rfl, Nat.le_of_ble_eq_true rfl⟩
theorem rm_X7_write_X0_greedyInto : RmOk K_X7_write.2.2.2.2 K_X0_greedyInto := ⟨rfl, rfl, Nat.le_of_ble_eq_true rfl, Nat.le_of_ble_eq_true rfl⟩
theorem rm_X7_write_X7_baseAt : RmOk K_X7_write.2.2.2.2 K_X7_baseAt := ⟨rfl, rfl, Nat.le_of_ble_eq_true rfl, Nat.le_of_ble_eq_true rfl⟩
theorem rm_X7_write_X7_fillReel : RmOk K_X7_write.2.2.2.2 K_X7_fillReel := ⟨rfl, rfl, Nat.le_of_ble_eq_true rfl, Nat.le_of_ble_eq_true rfl⟩
theorem rm_X7_write_X7_reelAt : RmOk K_X7_write.2.2.2.2 K_X7_reelAt := ⟨rfl, rfl, Nat.le_of_ble_eq_true rfl, Nat.le_of_ble_eq_true rfl⟩
theorem rm_X7_sum_X0_valueOf : RmOk K_X7_sum.2.2.2.2 K_X0_valueOf := ⟨rfl, rfl, Nat.le_of_ble_eq_true rfl, Nat.le_of_ble_eq_true rfl⟩
theorem rm_X7_sum_X7_addInto : RmOk K_X7_sum.2.2.2.2 K_X7_addInto := ⟨rfl, rfl, Nat.le_of_ble_eq_true rfl, Nat.le_of_ble_eq_true rfl⟩
theorem rm_X7_sum_X7_fillReel : RmOk K_X7_sum.2.2.2.2 K_X7_fillReel := ⟨rfl, rfl, Nat.le_of_ble_eq_true rfl, Nat.le_of_ble_eq_true rfl⟩
theorem rm_X7_sum_X7_isWithin : RmOk K_X7_sum.2.2.2.2 K_X7_isWithin := ⟨rfl, rfl, Nat.le_of_ble_eq_true rfl, Nat.le_of_ble_eq_true rfl⟩
theorem rm_X7_sum_X7_reckon : RmOk K_X7_sum.2.2.2.2 K_X7_reckon := ⟨rfl, rfl, Nat.le_of_ble_eq_true rfl, Nat.le_of_ble_eq_true rfl⟩
theorem rm_X7_sum_X7_reelAt : RmOk K_X7_sum.2.2.2.2 K_X7_reelAt := ⟨rfl, rfl, Nat.le_of_ble_eq_true rfl, Nat.le_of_ble_eq_true rfl⟩
theorem rm_X7_sum_X7_write : RmOk K_X7_sum.2.2.2.2 K_X7_write := ⟨rfl, rfl, Nat.le_of_ble_eq_true rfl, Nat.le_of_ble_eq_true rfl⟩
theorem rm_X7_taken_X0_kind : RmOk K_X7_taken.2.2.2.2 K_X0_kind := ⟨rfl, rfl, Nat.le_of_ble_eq_true rfl, Nat.le_of_ble_eq_true rfl⟩
theorem rm_X7_taken_X7_baseAt : RmOk K_X7_taken.2.2.2.2 K_X7_baseAt := ⟨rfl, rfl, Nat.le_of_ble_eq_true rfl, Nat.le_of_ble_eq_true rfl⟩
theorem rm_X7_taken_X7_isUnder : RmOk K_X7_taken.2.2.2.2 K_X7_isUnder := ⟨rfl, rfl, Nat.le_of_ble_eq_true rfl, Nat.le_of_ble_eq_true rfl⟩
theorem rm_X7_taken_X7_isWithin : RmOk K_X7_taken.2.2.2.2 K_X7_isWithin := ⟨rfl, rfl, Nat.le_of_ble_eq_true rfl, Nat.le_of_ble_eq_true rfl⟩
theorem rm_X7_told_X0_allows : RmOk K_X7_told.2.2.2.2 K_X0_allows := ⟨rfl, rfl, Nat.le_of_ble_eq_true rfl, Nat.le_of_ble_eq_true rfl⟩
theorem rm_X7_told_X7_countNotZero : RmOk K_X7_told.2.2.2.2 K_X7_countNotZero := ⟨rfl, rfl, Nat.le_of_ble_eq_true rfl, Nat.le_of_ble_eq_true rfl⟩
theorem rm_X7_told_X7_highestNotZero : RmOk K_X7_told.2.2.2.2 K_X7_highestNotZero := ⟨rfl, rfl, Nat.le_of_ble_eq_true rfl, Nat.le_of_ble_eq_true rfl⟩
theorem rm_X7_told_X7_isWithin : RmOk K_X7_told.2.2.2.2 K_X7_isWithin := ⟨rfl, rfl, Nat.le_of_ble_eq_true rfl, Nat.le_of_ble_eq_true rfl⟩
theorem rm_X7_told_X7_reelAt : RmOk K_X7_told.2.2.2.2 K_X7_reelAt := ⟨rfl, rfl, Nat.le_of_ble_eq_true rfl, Nat.le_of_ble_eq_true rfl⟩
theorem rm_X7_top_X7_baseAt : RmOk K_X7_top.2.2.2.2 K_X7_baseAt := ⟨rfl, rfl, Nat.le_of_ble_eq_true rfl, Nat.le_of_ble_eq_true rfl⟩
theorem rm_X7_undo_X7_carryState : RmOk K_X7_undo.2.2.2.2 K_X7_carryState := ⟨rfl, rfl, Nat.le_of_ble_eq_true rfl, Nat.le_of_ble_eq_true rfl⟩
theorem rm_X7_undo_X7_countReels : RmOk K_X7_undo.2.2.2.2 K_X7_countReels := ⟨rfl, rfl, Nat.le_of_ble_eq_true rfl, Nat.le_of_ble_eq_true rfl⟩
theorem rm_X7_value_X0_valueOf : RmOk K_X7_value.2.2.2.2 K_X0_valueOf := ⟨rfl, rfl, Nat.le_of_ble_eq_true rfl, Nat.le_of_ble_eq_true rfl⟩
theorem rm_X7_value_X7_reelAt : RmOk K_X7_value.2.2.2.2 K_X7_reelAt := ⟨rfl, rfl, Nat.le_of_ble_eq_true rfl, Nat.le_of_ble_eq_true rfl⟩
theorem rm_X7_ways_X3_make : RmOk K_X7_ways.2.2.2.2 K_X3_make := ⟨rfl, rfl, Nat.le_of_ble_eq_true rfl, Nat.le_of_ble_eq_true rfl⟩
theorem rm_X7_ways_X7_baseAt : RmOk K_X7_ways.2.2.2.2 K_X7_baseAt := ⟨rfl, rfl, Nat.le_of_ble_eq_true rfl, Nat.le_of_ble_eq_true rfl⟩
theorem rm_X7_ways_X7_isWithin : RmOk K_X7_ways.2.2.2.2 K_X7_isWithin := ⟨rfl, rfl, Nat.le_of_ble_eq_true rfl, Nat.le_of_ble_eq_true rfl⟩
theorem rm_X7_worth_X0_hasPlace : RmOk K_X7_worth.2.2.2.2 K_X0_hasPlace := ⟨rfl, rfl, Nat.le_of_ble_eq_true rfl, Nat.le_of_ble_eq_true rfl⟩
theorem rm_X7_worth_X7_baseAt : RmOk K_X7_worth.2.2.2.2 K_X7_baseAt := ⟨rfl, rfl, Nat.le_of_ble_eq_true rfl, Nat.le_of_ble_eq_true rfl⟩
theorem rm_X7_worth_X7_isWithin : RmOk K_X7_worth.2.2.2.2 K_X7_isWithin := ⟨rfl, rfl, Nat.le_of_ble_eq_true rfl, Nat.le_of_ble_eq_true rfl⟩
theorem rm_X8_isReel_X8_in : RmOk K_X8_isReel.2.2.2.2 K_X8_in := ⟨rfl, rfl, Nat.le_of_ble_eq_true rfl, Nat.le_of_ble_eq_true rfl⟩
theorem rm_X8_refusal_X8_isEmpty : RmOk K_X8_refusal.2.2.2.2 K_X8_isEmpty := ⟨rfl, rfl, Nat.le_of_ble_eq_true rfl, Nat.le_of_ble_eq_true rfl⟩
theorem rm_X8_refusal_X8_isReel : RmOk K_X8_refusal.2.2.2.2 K_X8_isReel := ⟨rfl, rfl, Nat.le_of_ble_eq_true rfl, Nat.le_of_ble_eq_true rfl⟩
theorem rm_X8_refusal__X8_high : RmOk K_X8_refusal_.2.2.2.2 K_X8_high := ⟨rfl, rfl, Nat.le_of_ble_eq_true rfl, Nat.le_of_ble_eq_true rfl⟩
theorem rm_X8_refusal__X8_in : RmOk K_X8_refusal_.2.2.2.2 K_X8_in := ⟨rfl, rfl, Nat.le_of_ble_eq_true rfl, Nat.le_of_ble_eq_true rfl⟩
theorem rm_X8_refusal__X8_refusal : RmOk K_X8_refusal_.2.2.2.2 K_X8_refusal := ⟨rfl, rfl, Nat.le_of_ble_eq_true rfl, Nat.le_of_ble_eq_true rfl⟩
theorem rm_X8_at_X8_digitAt : RmOk K_X8_at.2.2.2.2 K_X8_digitAt := ⟨rfl, rfl, Nat.le_of_ble_eq_true rfl, Nat.le_of_ble_eq_true rfl⟩
theorem rm_X8_at_X8_refusal_ : RmOk K_X8_at.2.2.2.2 K_X8_refusal_ := ⟨rfl, rfl, Nat.le_of_ble_eq_true rfl, Nat.le_of_ble_eq_true rfl⟩
theorem rm_X8_isBase_X8_in : RmOk K_X8_isBase.2.2.2.2 K_X8_in := ⟨rfl, rfl, Nat.le_of_ble_eq_true rfl, Nat.le_of_ble_eq_true rfl⟩
theorem rm_X8_fills_X8_step : RmOk K_X8_fills.2.2.2.2 K_X8_step := ⟨rfl, rfl, Nat.le_of_ble_eq_true rfl, Nat.le_of_ble_eq_true rfl⟩
theorem rm_X8_forgets_X8_moves : RmOk K_X8_forgets.2.2.2.2 K_X8_moves := ⟨rfl, rfl, Nat.le_of_ble_eq_true rfl, Nat.le_of_ble_eq_true rfl⟩
theorem rm_X8_base_X8_fills : RmOk K_X8_base.2.2.2.2 K_X8_fills := ⟨rfl, rfl, Nat.le_of_ble_eq_true rfl, Nat.le_of_ble_eq_true rfl⟩
theorem rm_X8_base_X8_forgets : RmOk K_X8_base.2.2.2.2 K_X8_forgets := ⟨rfl, rfl, Nat.le_of_ble_eq_true rfl, Nat.le_of_ble_eq_true rfl⟩
theorem rm_X8_base_X8_in : RmOk K_X8_base.2.2.2.2 K_X8_in := ⟨rfl, rfl, Nat.le_of_ble_eq_true rfl, Nat.le_of_ble_eq_true rfl⟩
theorem rm_X8_base_X8_isBase : RmOk K_X8_base.2.2.2.2 K_X8_isBase := ⟨rfl, rfl, Nat.le_of_ble_eq_true rfl, Nat.le_of_ble_eq_true rfl⟩
theorem rm_X8_can_X8_digitAt : RmOk K_X8_can.2.2.2.2 K_X8_digitAt := ⟨rfl, rfl, Nat.le_of_ble_eq_true rfl, Nat.le_of_ble_eq_true rfl⟩
theorem rm_X8_can_X8_in : RmOk K_X8_can.2.2.2.2 K_X8_in := ⟨rfl, rfl, Nat.le_of_ble_eq_true rfl, Nat.le_of_ble_eq_true rfl⟩
theorem rm_X8_can_X8_step : RmOk K_X8_can.2.2.2.2 K_X8_step := ⟨rfl, rfl, Nat.le_of_ble_eq_true rfl, Nat.le_of_ble_eq_true rfl⟩
theorem rm_X8_can_X8_worth : RmOk K_X8_can.2.2.2.2 K_X8_worth := ⟨rfl, rfl, Nat.le_of_ble_eq_true rfl, Nat.le_of_ble_eq_true rfl⟩
theorem rm_X8_does_X8_digitAt : RmOk K_X8_does.2.2.2.2 K_X8_digitAt := ⟨rfl, rfl, Nat.le_of_ble_eq_true rfl, Nat.le_of_ble_eq_true rfl⟩
theorem rm_X8_does_X8_moves : RmOk K_X8_does.2.2.2.2 K_X8_moves := ⟨rfl, rfl, Nat.le_of_ble_eq_true rfl, Nat.le_of_ble_eq_true rfl⟩
theorem rm_X8_goes_X8_step : RmOk K_X8_goes.2.2.2.2 K_X8_step := ⟨rfl, rfl, Nat.le_of_ble_eq_true rfl, Nat.le_of_ble_eq_true rfl⟩
theorem rm_X8_goes_X8_worth : RmOk K_X8_goes.2.2.2.2 K_X8_worth := ⟨rfl, rfl, Nat.le_of_ble_eq_true rfl, Nat.le_of_ble_eq_true rfl⟩
theorem rm_X8_borrow_X8_can : RmOk K_X8_borrow.2.2.2.2 K_X8_can := ⟨rfl, rfl, Nat.le_of_ble_eq_true rfl, Nat.le_of_ble_eq_true rfl⟩
theorem rm_X8_borrow_X8_digitAt : RmOk K_X8_borrow.2.2.2.2 K_X8_digitAt := ⟨rfl, rfl, Nat.le_of_ble_eq_true rfl, Nat.le_of_ble_eq_true rfl⟩
theorem rm_X8_borrow_X8_does : RmOk K_X8_borrow.2.2.2.2 K_X8_does := ⟨rfl, rfl, Nat.le_of_ble_eq_true rfl, Nat.le_of_ble_eq_true rfl⟩
theorem rm_X8_borrow_X8_goes : RmOk K_X8_borrow.2.2.2.2 K_X8_goes := ⟨rfl, rfl, Nat.le_of_ble_eq_true rfl, Nat.le_of_ble_eq_true rfl⟩
theorem rm_X8_borrow_X8_refusal_ : RmOk K_X8_borrow.2.2.2.2 K_X8_refusal_ := ⟨rfl, rfl, Nat.le_of_ble_eq_true rfl, Nat.le_of_ble_eq_true rfl⟩
theorem rm_X8_carry_X8_can : RmOk K_X8_carry.2.2.2.2 K_X8_can := ⟨rfl, rfl, Nat.le_of_ble_eq_true rfl, Nat.le_of_ble_eq_true rfl⟩
theorem rm_X8_carry_X8_digitAt : RmOk K_X8_carry.2.2.2.2 K_X8_digitAt := ⟨rfl, rfl, Nat.le_of_ble_eq_true rfl, Nat.le_of_ble_eq_true rfl⟩
theorem rm_X8_carry_X8_does : RmOk K_X8_carry.2.2.2.2 K_X8_does := ⟨rfl, rfl, Nat.le_of_ble_eq_true rfl, Nat.le_of_ble_eq_true rfl⟩
theorem rm_X8_carry_X8_goes : RmOk K_X8_carry.2.2.2.2 K_X8_goes := ⟨rfl, rfl, Nat.le_of_ble_eq_true rfl, Nat.le_of_ble_eq_true rfl⟩
theorem rm_X8_carry_X8_refusal_ : RmOk K_X8_carry.2.2.2.2 K_X8_refusal_ := ⟨rfl, rfl, Nat.le_of_ble_eq_true rfl, Nat.le_of_ble_eq_true rfl⟩
theorem rm_X8_isRow_X8_in : RmOk K_X8_isRow.2.2.2.2 K_X8_in := ⟨rfl, rfl, Nat.le_of_ble_eq_true rfl, Nat.le_of_ble_eq_true rfl⟩
theorem rm_X8_copy_X8_isRow : RmOk K_X8_copy.2.2.2.2 K_X8_isRow := ⟨rfl, rfl, Nat.le_of_ble_eq_true rfl, Nat.le_of_ble_eq_true rfl⟩
theorem rm_X8_full_X8_isEmpty : RmOk K_X8_full.2.2.2.2 K_X8_isEmpty := ⟨rfl, rfl, Nat.le_of_ble_eq_true rfl, Nat.le_of_ble_eq_true rfl⟩
theorem rm_X8_count_X8_full : RmOk K_X8_count.2.2.2.2 K_X8_full := ⟨rfl, rfl, Nat.le_of_ble_eq_true rfl, Nat.le_of_ble_eq_true rfl⟩
theorem rm_X8_makes_X8_worth : RmOk K_X8_makes.2.2.2.2 K_X8_worth := ⟨rfl, rfl, Nat.le_of_ble_eq_true rfl, Nat.le_of_ble_eq_true rfl⟩
theorem rm_X8_crossed_X8_isBase : RmOk K_X8_crossed.2.2.2.2 K_X8_isBase := ⟨rfl, rfl, Nat.le_of_ble_eq_true rfl, Nat.le_of_ble_eq_true rfl⟩
theorem rm_X8_crossed_X8_makes : RmOk K_X8_crossed.2.2.2.2 K_X8_makes := ⟨rfl, rfl, Nat.le_of_ble_eq_true rfl, Nat.le_of_ble_eq_true rfl⟩
theorem rm_X8_digit_X8_digitAt : RmOk K_X8_digit.2.2.2.2 K_X8_digitAt := ⟨rfl, rfl, Nat.le_of_ble_eq_true rfl, Nat.le_of_ble_eq_true rfl⟩
theorem rm_X8_digit_X8_does : RmOk K_X8_digit.2.2.2.2 K_X8_does := ⟨rfl, rfl, Nat.le_of_ble_eq_true rfl, Nat.le_of_ble_eq_true rfl⟩
theorem rm_X8_digit_X8_in : RmOk K_X8_digit.2.2.2.2 K_X8_in := ⟨rfl, rfl, Nat.le_of_ble_eq_true rfl, Nat.le_of_ble_eq_true rfl⟩
theorem rm_X8_digit_X8_isReel : RmOk K_X8_digit.2.2.2.2 K_X8_isReel := ⟨rfl, rfl, Nat.le_of_ble_eq_true rfl, Nat.le_of_ble_eq_true rfl⟩
theorem rm_X8_digit_X8_refusal_ : RmOk K_X8_digit.2.2.2.2 K_X8_refusal_ := ⟨rfl, rfl, Nat.le_of_ble_eq_true rfl, Nat.le_of_ble_eq_true rfl⟩
theorem rm_X8_empty_X8_forgets : RmOk K_X8_empty.2.2.2.2 K_X8_forgets := ⟨rfl, rfl, Nat.le_of_ble_eq_true rfl, Nat.le_of_ble_eq_true rfl⟩
theorem rm_X8_empty_X8_isEmpty : RmOk K_X8_empty.2.2.2.2 K_X8_isEmpty := ⟨rfl, rfl, Nat.le_of_ble_eq_true rfl, Nat.le_of_ble_eq_true rfl⟩
theorem rm_X8_empty_X8_isReel : RmOk K_X8_empty.2.2.2.2 K_X8_isReel := ⟨rfl, rfl, Nat.le_of_ble_eq_true rfl, Nat.le_of_ble_eq_true rfl⟩
theorem rm_X8_feed_X8_in : RmOk K_X8_feed.2.2.2.2 K_X8_in := ⟨rfl, rfl, Nat.le_of_ble_eq_true rfl, Nat.le_of_ble_eq_true rfl⟩
theorem rm_X8_filled_X8_digitAt : RmOk K_X8_filled.2.2.2.2 K_X8_digitAt := ⟨rfl, rfl, Nat.le_of_ble_eq_true rfl, Nat.le_of_ble_eq_true rfl⟩
theorem rm_X8_filled_X8_high : RmOk K_X8_filled.2.2.2.2 K_X8_high := ⟨rfl, rfl, Nat.le_of_ble_eq_true rfl, Nat.le_of_ble_eq_true rfl⟩
theorem rm_X8_row_X8_isRow : RmOk K_X8_row.2.2.2.2 K_X8_isRow := ⟨rfl, rfl, Nat.le_of_ble_eq_true rfl, Nat.le_of_ble_eq_true rfl⟩
theorem rm_X8_film_X8_digitAt : RmOk K_X8_film.2.2.2.2 K_X8_digitAt := ⟨rfl, rfl, Nat.le_of_ble_eq_true rfl, Nat.le_of_ble_eq_true rfl⟩
theorem rm_X8_film_X8_high : RmOk K_X8_film.2.2.2.2 K_X8_high := ⟨rfl, rfl, Nat.le_of_ble_eq_true rfl, Nat.le_of_ble_eq_true rfl⟩
theorem rm_X8_film_X8_isEmpty : RmOk K_X8_film.2.2.2.2 K_X8_isEmpty := ⟨rfl, rfl, Nat.le_of_ble_eq_true rfl, Nat.le_of_ble_eq_true rfl⟩
theorem rm_X8_film_X8_isReel : RmOk K_X8_film.2.2.2.2 K_X8_isReel := ⟨rfl, rfl, Nat.le_of_ble_eq_true rfl, Nat.le_of_ble_eq_true rfl⟩
theorem rm_X8_film_X8_isRow : RmOk K_X8_film.2.2.2.2 K_X8_isRow := ⟨rfl, rfl, Nat.le_of_ble_eq_true rfl, Nat.le_of_ble_eq_true rfl⟩
theorem rm_X8_film_X8_row : RmOk K_X8_film.2.2.2.2 K_X8_row := ⟨rfl, rfl, Nat.le_of_ble_eq_true rfl, Nat.le_of_ble_eq_true rfl⟩
theorem rm_X8_get_X8_in : RmOk K_X8_get.2.2.2.2 K_X8_in := ⟨rfl, rfl, Nat.le_of_ble_eq_true rfl, Nat.le_of_ble_eq_true rfl⟩
theorem rm_X8_get_X8_isRow : RmOk K_X8_get.2.2.2.2 K_X8_isRow := ⟨rfl, rfl, Nat.le_of_ble_eq_true rfl, Nat.le_of_ble_eq_true rfl⟩
theorem rm_X8_highest_X8_digitAt : RmOk K_X8_highest.2.2.2.2 K_X8_digitAt := ⟨rfl, rfl, Nat.le_of_ble_eq_true rfl, Nat.le_of_ble_eq_true rfl⟩
theorem rm_X8_highest_X8_high : RmOk K_X8_highest.2.2.2.2 K_X8_high := ⟨rfl, rfl, Nat.le_of_ble_eq_true rfl, Nat.le_of_ble_eq_true rfl⟩
theorem rm_X8_takes_X8_digitAt : RmOk K_X8_takes.2.2.2.2 K_X8_digitAt := ⟨rfl, rfl, Nat.le_of_ble_eq_true rfl, Nat.le_of_ble_eq_true rfl⟩
theorem rm_X8_takes_X8_high : RmOk K_X8_takes.2.2.2.2 K_X8_high := ⟨rfl, rfl, Nat.le_of_ble_eq_true rfl, Nat.le_of_ble_eq_true rfl⟩
theorem rm_X8_holds_X8_filled : RmOk K_X8_holds.2.2.2.2 K_X8_filled := ⟨rfl, rfl, Nat.le_of_ble_eq_true rfl, Nat.le_of_ble_eq_true rfl⟩
theorem rm_X8_holds_X8_forgets : RmOk K_X8_holds.2.2.2.2 K_X8_forgets := ⟨rfl, rfl, Nat.le_of_ble_eq_true rfl, Nat.le_of_ble_eq_true rfl⟩
theorem rm_X8_holds_X8_takes : RmOk K_X8_holds.2.2.2.2 K_X8_takes := ⟨rfl, rfl, Nat.le_of_ble_eq_true rfl, Nat.le_of_ble_eq_true rfl⟩
theorem rm_X8_image_X8_full : RmOk K_X8_image.2.2.2.2 K_X8_full := ⟨rfl, rfl, Nat.le_of_ble_eq_true rfl, Nat.le_of_ble_eq_true rfl⟩
theorem rm_X8_isFigure_X8_in : RmOk K_X8_isFigure.2.2.2.2 K_X8_in := ⟨rfl, rfl, Nat.le_of_ble_eq_true rfl, Nat.le_of_ble_eq_true rfl⟩
theorem rm_X8_isLegal_X8_digitAt : RmOk K_X8_isLegal.2.2.2.2 K_X8_digitAt := ⟨rfl, rfl, Nat.le_of_ble_eq_true rfl, Nat.le_of_ble_eq_true rfl⟩
theorem rm_X8_isLegal_X8_high : RmOk K_X8_isLegal.2.2.2.2 K_X8_high := ⟨rfl, rfl, Nat.le_of_ble_eq_true rfl, Nat.le_of_ble_eq_true rfl⟩
theorem rm_X8_isLegal_X8_step : RmOk K_X8_isLegal.2.2.2.2 K_X8_step := ⟨rfl, rfl, Nat.le_of_ble_eq_true rfl, Nat.le_of_ble_eq_true rfl⟩
theorem rm_X8_kind_X8_step : RmOk K_X8_kind.2.2.2.2 K_X8_step := ⟨rfl, rfl, Nat.le_of_ble_eq_true rfl, Nat.le_of_ble_eq_true rfl⟩
theorem rm_X8_lay_X8_holds : RmOk K_X8_lay.2.2.2.2 K_X8_holds := ⟨rfl, rfl, Nat.le_of_ble_eq_true rfl, Nat.le_of_ble_eq_true rfl⟩
theorem rm_X8_lay_X8_in : RmOk K_X8_lay.2.2.2.2 K_X8_in := ⟨rfl, rfl, Nat.le_of_ble_eq_true rfl, Nat.le_of_ble_eq_true rfl⟩
theorem rm_X8_lay_X8_isBase : RmOk K_X8_lay.2.2.2.2 K_X8_isBase := ⟨rfl, rfl, Nat.le_of_ble_eq_true rfl, Nat.le_of_ble_eq_true rfl⟩
theorem rm_X8_lay_X8_isReel : RmOk K_X8_lay.2.2.2.2 K_X8_isReel := ⟨rfl, rfl, Nat.le_of_ble_eq_true rfl, Nat.le_of_ble_eq_true rfl⟩
theorem rm_X8_lay_X8_isRow : RmOk K_X8_lay.2.2.2.2 K_X8_isRow := ⟨rfl, rfl, Nat.le_of_ble_eq_true rfl, Nat.le_of_ble_eq_true rfl⟩
theorem rm_X8_valueOf_X8_digitAt : RmOk K_X8_valueOf.2.2.2.2 K_X8_digitAt := ⟨rfl, rfl, Nat.le_of_ble_eq_true rfl, Nat.le_of_ble_eq_true rfl⟩
theorem rm_X8_valueOf_X8_high : RmOk K_X8_valueOf.2.2.2.2 K_X8_high := ⟨rfl, rfl, Nat.le_of_ble_eq_true rfl, Nat.le_of_ble_eq_true rfl⟩
theorem rm_X8_valueOf_X8_worth : RmOk K_X8_valueOf.2.2.2.2 K_X8_worth := ⟨rfl, rfl, Nat.le_of_ble_eq_true rfl, Nat.le_of_ble_eq_true rfl⟩
theorem rm_X8_like_X8_digitAt : RmOk K_X8_like.2.2.2.2 K_X8_digitAt := ⟨rfl, rfl, Nat.le_of_ble_eq_true rfl, Nat.le_of_ble_eq_true rfl⟩
theorem rm_X8_like_X8_high : RmOk K_X8_like.2.2.2.2 K_X8_high := ⟨rfl, rfl, Nat.le_of_ble_eq_true rfl, Nat.le_of_ble_eq_true rfl⟩
theorem rm_X8_like_X8_in : RmOk K_X8_like.2.2.2.2 K_X8_in := ⟨rfl, rfl, Nat.le_of_ble_eq_true rfl, Nat.le_of_ble_eq_true rfl⟩
theorem rm_X8_like_X8_isEmpty : RmOk K_X8_like.2.2.2.2 K_X8_isEmpty := ⟨rfl, rfl, Nat.le_of_ble_eq_true rfl, Nat.le_of_ble_eq_true rfl⟩
theorem rm_X8_like_X8_isReel : RmOk K_X8_like.2.2.2.2 K_X8_isReel := ⟨rfl, rfl, Nat.le_of_ble_eq_true rfl, Nat.le_of_ble_eq_true rfl⟩
theorem rm_X8_like_X8_valueOf : RmOk K_X8_like.2.2.2.2 K_X8_valueOf := ⟨rfl, rfl, Nat.le_of_ble_eq_true rfl, Nat.le_of_ble_eq_true rfl⟩
theorem rm_X8_of_X8_in : RmOk K_X8_of.2.2.2.2 K_X8_in := ⟨rfl, rfl, Nat.le_of_ble_eq_true rfl, Nat.le_of_ble_eq_true rfl⟩
theorem rm_X8_of_X8_isBase : RmOk K_X8_of.2.2.2.2 K_X8_isBase := ⟨rfl, rfl, Nat.le_of_ble_eq_true rfl, Nat.le_of_ble_eq_true rfl⟩
theorem rm_X8_of_X8_kind : RmOk K_X8_of.2.2.2.2 K_X8_kind := ⟨rfl, rfl, Nat.le_of_ble_eq_true rfl, Nat.le_of_ble_eq_true rfl⟩
theorem rm_X8_on_X8_does : RmOk K_X8_on.2.2.2.2 K_X8_does := ⟨rfl, rfl, Nat.le_of_ble_eq_true rfl, Nat.le_of_ble_eq_true rfl⟩
theorem rm_X8_on_X8_in : RmOk K_X8_on.2.2.2.2 K_X8_in := ⟨rfl, rfl, Nat.le_of_ble_eq_true rfl, Nat.le_of_ble_eq_true rfl⟩
theorem rm_X8_on_X8_isEmpty : RmOk K_X8_on.2.2.2.2 K_X8_isEmpty := ⟨rfl, rfl, Nat.le_of_ble_eq_true rfl, Nat.le_of_ble_eq_true rfl⟩
theorem rm_X8_on_X8_isLegal : RmOk K_X8_on.2.2.2.2 K_X8_isLegal := ⟨rfl, rfl, Nat.le_of_ble_eq_true rfl, Nat.le_of_ble_eq_true rfl⟩
theorem rm_X8_on_X8_isReel : RmOk K_X8_on.2.2.2.2 K_X8_isReel := ⟨rfl, rfl, Nat.le_of_ble_eq_true rfl, Nat.le_of_ble_eq_true rfl⟩
theorem rm_X8_on_X8_makes : RmOk K_X8_on.2.2.2.2 K_X8_makes := ⟨rfl, rfl, Nat.le_of_ble_eq_true rfl, Nat.le_of_ble_eq_true rfl⟩
theorem rm_X8_on_X8_takes : RmOk K_X8_on.2.2.2.2 K_X8_takes := ⟨rfl, rfl, Nat.le_of_ble_eq_true rfl, Nat.le_of_ble_eq_true rfl⟩
theorem rm_X8_on_X8_valueOf : RmOk K_X8_on.2.2.2.2 K_X8_valueOf := ⟨rfl, rfl, Nat.le_of_ble_eq_true rfl, Nat.le_of_ble_eq_true rfl⟩
theorem rm_X8_prints_X8_digitAt : RmOk K_X8_prints.2.2.2.2 K_X8_digitAt := ⟨rfl, rfl, Nat.le_of_ble_eq_true rfl, Nat.le_of_ble_eq_true rfl⟩
theorem rm_X8_prints_X8_highest : RmOk K_X8_prints.2.2.2.2 K_X8_highest := ⟨rfl, rfl, Nat.le_of_ble_eq_true rfl, Nat.le_of_ble_eq_true rfl⟩
theorem rm_X8_print_X8_isEmpty : RmOk K_X8_print.2.2.2.2 K_X8_isEmpty := ⟨rfl, rfl, Nat.le_of_ble_eq_true rfl, Nat.le_of_ble_eq_true rfl⟩
theorem rm_X8_print_X8_isReel : RmOk K_X8_print.2.2.2.2 K_X8_isReel := ⟨rfl, rfl, Nat.le_of_ble_eq_true rfl, Nat.le_of_ble_eq_true rfl⟩
theorem rm_X8_print_X8_prints : RmOk K_X8_print.2.2.2.2 K_X8_prints := ⟨rfl, rfl, Nat.le_of_ble_eq_true rfl, Nat.le_of_ble_eq_true rfl⟩
theorem rm_X8_put_X8_in : RmOk K_X8_put.2.2.2.2 K_X8_in := ⟨rfl, rfl, Nat.le_of_ble_eq_true rfl, Nat.le_of_ble_eq_true rfl⟩
theorem rm_X8_put_X8_isRow : RmOk K_X8_put.2.2.2.2 K_X8_isRow := ⟨rfl, rfl, Nat.le_of_ble_eq_true rfl, Nat.le_of_ble_eq_true rfl⟩
theorem rm_X8_reads_X8_isFigure : RmOk K_X8_reads.2.2.2.2 K_X8_isFigure := ⟨rfl, rfl, Nat.le_of_ble_eq_true rfl, Nat.le_of_ble_eq_true rfl⟩
theorem rm_X8_read_X8_holds : RmOk K_X8_read.2.2.2.2 K_X8_holds := ⟨rfl, rfl, Nat.le_of_ble_eq_true rfl, Nat.le_of_ble_eq_true rfl⟩
theorem rm_X8_read_X8_isBase : RmOk K_X8_read.2.2.2.2 K_X8_isBase := ⟨rfl, rfl, Nat.le_of_ble_eq_true rfl, Nat.le_of_ble_eq_true rfl⟩
theorem rm_X8_read_X8_isReel : RmOk K_X8_read.2.2.2.2 K_X8_isReel := ⟨rfl, rfl, Nat.le_of_ble_eq_true rfl, Nat.le_of_ble_eq_true rfl⟩
theorem rm_X8_read_X8_reads : RmOk K_X8_read.2.2.2.2 K_X8_reads := ⟨rfl, rfl, Nat.le_of_ble_eq_true rfl, Nat.le_of_ble_eq_true rfl⟩
theorem rm_X8_right_X8_does : RmOk K_X8_right.2.2.2.2 K_X8_does := ⟨rfl, rfl, Nat.le_of_ble_eq_true rfl, Nat.le_of_ble_eq_true rfl⟩
theorem rm_X8_right_X8_makes : RmOk K_X8_right.2.2.2.2 K_X8_makes := ⟨rfl, rfl, Nat.le_of_ble_eq_true rfl, Nat.le_of_ble_eq_true rfl⟩
theorem rm_X8_right_X8_refusal : RmOk K_X8_right.2.2.2.2 K_X8_refusal := ⟨rfl, rfl, Nat.le_of_ble_eq_true rfl, Nat.le_of_ble_eq_true rfl⟩
theorem rm_X8_right_X8_takes : RmOk K_X8_right.2.2.2.2 K_X8_takes := ⟨rfl, rfl, Nat.le_of_ble_eq_true rfl, Nat.le_of_ble_eq_true rfl⟩
theorem rm_X8_right_X8_valueOf : RmOk K_X8_right.2.2.2.2 K_X8_valueOf := ⟨rfl, rfl, Nat.le_of_ble_eq_true rfl, Nat.le_of_ble_eq_true rfl⟩
theorem rm_X8_settle_X8_can : RmOk K_X8_settle.2.2.2.2 K_X8_can := ⟨rfl, rfl, Nat.le_of_ble_eq_true rfl, Nat.le_of_ble_eq_true rfl⟩
theorem rm_X8_settle_X8_does : RmOk K_X8_settle.2.2.2.2 K_X8_does := ⟨rfl, rfl, Nat.le_of_ble_eq_true rfl, Nat.le_of_ble_eq_true rfl⟩
theorem rm_X8_settle_X8_goes : RmOk K_X8_settle.2.2.2.2 K_X8_goes := ⟨rfl, rfl, Nat.le_of_ble_eq_true rfl, Nat.le_of_ble_eq_true rfl⟩
theorem rm_X8_settle_X8_high : RmOk K_X8_settle.2.2.2.2 K_X8_high := ⟨rfl, rfl, Nat.le_of_ble_eq_true rfl, Nat.le_of_ble_eq_true rfl⟩
theorem rm_X8_settle_X8_refusal : RmOk K_X8_settle.2.2.2.2 K_X8_refusal := ⟨rfl, rfl, Nat.le_of_ble_eq_true rfl, Nat.le_of_ble_eq_true rfl⟩
theorem rm_X8_shift_X8_digitAt : RmOk K_X8_shift.2.2.2.2 K_X8_digitAt := ⟨rfl, rfl, Nat.le_of_ble_eq_true rfl, Nat.le_of_ble_eq_true rfl⟩
theorem rm_X8_shift_X8_does : RmOk K_X8_shift.2.2.2.2 K_X8_does := ⟨rfl, rfl, Nat.le_of_ble_eq_true rfl, Nat.le_of_ble_eq_true rfl⟩
theorem rm_X8_shift_X8_high : RmOk K_X8_shift.2.2.2.2 K_X8_high := ⟨rfl, rfl, Nat.le_of_ble_eq_true rfl, Nat.le_of_ble_eq_true rfl⟩
theorem rm_X8_shift_X8_in : RmOk K_X8_shift.2.2.2.2 K_X8_in := ⟨rfl, rfl, Nat.le_of_ble_eq_true rfl, Nat.le_of_ble_eq_true rfl⟩
theorem rm_X8_shift_X8_isEmpty : RmOk K_X8_shift.2.2.2.2 K_X8_isEmpty := ⟨rfl, rfl, Nat.le_of_ble_eq_true rfl, Nat.le_of_ble_eq_true rfl⟩
theorem rm_X8_shift_X8_isReel : RmOk K_X8_shift.2.2.2.2 K_X8_isReel := ⟨rfl, rfl, Nat.le_of_ble_eq_true rfl, Nat.le_of_ble_eq_true rfl⟩
theorem rm_X8_shift_X8_takes : RmOk K_X8_shift.2.2.2.2 K_X8_takes := ⟨rfl, rfl, Nat.le_of_ble_eq_true rfl, Nat.le_of_ble_eq_true rfl⟩
theorem rm_X8_soon_X8_digitAt : RmOk K_X8_soon.2.2.2.2 K_X8_digitAt := ⟨rfl, rfl, Nat.le_of_ble_eq_true rfl, Nat.le_of_ble_eq_true rfl⟩
theorem rm_X8_soon_X8_isLegal : RmOk K_X8_soon.2.2.2.2 K_X8_isLegal := ⟨rfl, rfl, Nat.le_of_ble_eq_true rfl, Nat.le_of_ble_eq_true rfl⟩
theorem rm_X8_soon_X8_makes : RmOk K_X8_soon.2.2.2.2 K_X8_makes := ⟨rfl, rfl, Nat.le_of_ble_eq_true rfl, Nat.le_of_ble_eq_true rfl⟩
theorem rm_X8_soon_X8_refusal_ : RmOk K_X8_soon.2.2.2.2 K_X8_refusal_ := ⟨rfl, rfl, Nat.le_of_ble_eq_true rfl, Nat.le_of_ble_eq_true rfl⟩
theorem rm_X8_soon_X8_valueOf : RmOk K_X8_soon.2.2.2.2 K_X8_valueOf := ⟨rfl, rfl, Nat.le_of_ble_eq_true rfl, Nat.le_of_ble_eq_true rfl⟩
theorem rm_X8_sum_X8_comes : RmOk K_X8_sum.2.2.2.2 K_X8_comes := ⟨rfl, rfl, Nat.le_of_ble_eq_true rfl, Nat.le_of_ble_eq_true rfl⟩
theorem rm_X8_sum_X8_digitAt : RmOk K_X8_sum.2.2.2.2 K_X8_digitAt := ⟨rfl, rfl, Nat.le_of_ble_eq_true rfl, Nat.le_of_ble_eq_true rfl⟩
theorem rm_X8_sum_X8_holds : RmOk K_X8_sum.2.2.2.2 K_X8_holds := ⟨rfl, rfl, Nat.le_of_ble_eq_true rfl, Nat.le_of_ble_eq_true rfl⟩
theorem rm_X8_sum_X8_in : RmOk K_X8_sum.2.2.2.2 K_X8_in := ⟨rfl, rfl, Nat.le_of_ble_eq_true rfl, Nat.le_of_ble_eq_true rfl⟩
theorem rm_X8_sum_X8_isEmpty : RmOk K_X8_sum.2.2.2.2 K_X8_isEmpty := ⟨rfl, rfl, Nat.le_of_ble_eq_true rfl, Nat.le_of_ble_eq_true rfl⟩
theorem rm_X8_sum_X8_isReel : RmOk K_X8_sum.2.2.2.2 K_X8_isReel := ⟨rfl, rfl, Nat.le_of_ble_eq_true rfl, Nat.le_of_ble_eq_true rfl⟩
theorem rm_X8_sum_X8_makes : RmOk K_X8_sum.2.2.2.2 K_X8_makes := ⟨rfl, rfl, Nat.le_of_ble_eq_true rfl, Nat.le_of_ble_eq_true rfl⟩
theorem rm_X8_sum_X8_valueOf : RmOk K_X8_sum.2.2.2.2 K_X8_valueOf := ⟨rfl, rfl, Nat.le_of_ble_eq_true rfl, Nat.le_of_ble_eq_true rfl⟩
theorem rm_X8_taken_X8_in : RmOk K_X8_taken.2.2.2.2 K_X8_in := ⟨rfl, rfl, Nat.le_of_ble_eq_true rfl, Nat.le_of_ble_eq_true rfl⟩
theorem rm_X8_taken_X8_isBase : RmOk K_X8_taken.2.2.2.2 K_X8_isBase := ⟨rfl, rfl, Nat.le_of_ble_eq_true rfl, Nat.le_of_ble_eq_true rfl⟩
theorem rm_X8_taken_X8_kind : RmOk K_X8_taken.2.2.2.2 K_X8_kind := ⟨rfl, rfl, Nat.le_of_ble_eq_true rfl, Nat.le_of_ble_eq_true rfl⟩
theorem rm_X8_told_X8_filled : RmOk K_X8_told.2.2.2.2 K_X8_filled := ⟨rfl, rfl, Nat.le_of_ble_eq_true rfl, Nat.le_of_ble_eq_true rfl⟩
theorem rm_X8_told_X8_highest : RmOk K_X8_told.2.2.2.2 K_X8_highest := ⟨rfl, rfl, Nat.le_of_ble_eq_true rfl, Nat.le_of_ble_eq_true rfl⟩
theorem rm_X8_told_X8_in : RmOk K_X8_told.2.2.2.2 K_X8_in := ⟨rfl, rfl, Nat.le_of_ble_eq_true rfl, Nat.le_of_ble_eq_true rfl⟩
theorem rm_X8_told_X8_isEmpty : RmOk K_X8_told.2.2.2.2 K_X8_isEmpty := ⟨rfl, rfl, Nat.le_of_ble_eq_true rfl, Nat.le_of_ble_eq_true rfl⟩
theorem rm_X8_told_X8_isLegal : RmOk K_X8_told.2.2.2.2 K_X8_isLegal := ⟨rfl, rfl, Nat.le_of_ble_eq_true rfl, Nat.le_of_ble_eq_true rfl⟩
theorem rm_X8_told_X8_isReel : RmOk K_X8_told.2.2.2.2 K_X8_isReel := ⟨rfl, rfl, Nat.le_of_ble_eq_true rfl, Nat.le_of_ble_eq_true rfl⟩
theorem rm_X8_top_X8_isBase : RmOk K_X8_top.2.2.2.2 K_X8_isBase := ⟨rfl, rfl, Nat.le_of_ble_eq_true rfl, Nat.le_of_ble_eq_true rfl⟩
theorem rm_X8_undo_X8_fills : RmOk K_X8_undo.2.2.2.2 K_X8_fills := ⟨rfl, rfl, Nat.le_of_ble_eq_true rfl, Nat.le_of_ble_eq_true rfl⟩
theorem rm_X8_undo_X8_full : RmOk K_X8_undo.2.2.2.2 K_X8_full := ⟨rfl, rfl, Nat.le_of_ble_eq_true rfl, Nat.le_of_ble_eq_true rfl⟩
theorem rm_X8_value_X8_refusal : RmOk K_X8_value.2.2.2.2 K_X8_refusal := ⟨rfl, rfl, Nat.le_of_ble_eq_true rfl, Nat.le_of_ble_eq_true rfl⟩
theorem rm_X8_value_X8_valueOf : RmOk K_X8_value.2.2.2.2 K_X8_valueOf := ⟨rfl, rfl, Nat.le_of_ble_eq_true rfl, Nat.le_of_ble_eq_true rfl⟩
theorem rm_X8_ways_X8_in : RmOk K_X8_ways.2.2.2.2 K_X8_in := ⟨rfl, rfl, Nat.le_of_ble_eq_true rfl, Nat.le_of_ble_eq_true rfl⟩
theorem rm_X8_ways_X8_isBase : RmOk K_X8_ways.2.2.2.2 K_X8_isBase := ⟨rfl, rfl, Nat.le_of_ble_eq_true rfl, Nat.le_of_ble_eq_true rfl⟩
theorem rm_X8_ways_X8_leaves : RmOk K_X8_ways.2.2.2.2 K_X8_leaves := ⟨rfl, rfl, Nat.le_of_ble_eq_true rfl, Nat.le_of_ble_eq_true rfl⟩
theorem rm_X8_ways_X8_worth : RmOk K_X8_ways.2.2.2.2 K_X8_worth := ⟨rfl, rfl, Nat.le_of_ble_eq_true rfl, Nat.le_of_ble_eq_true rfl⟩
theorem rm_X8_worth__X8_in : RmOk K_X8_worth_.2.2.2.2 K_X8_in := ⟨rfl, rfl, Nat.le_of_ble_eq_true rfl, Nat.le_of_ble_eq_true rfl⟩
theorem rm_X8_worth__X8_isBase : RmOk K_X8_worth_.2.2.2.2 K_X8_isBase := ⟨rfl, rfl, Nat.le_of_ble_eq_true rfl, Nat.le_of_ble_eq_true rfl⟩
theorem rm_X8_worth__X8_step : RmOk K_X8_worth_.2.2.2.2 K_X8_step := ⟨rfl, rfl, Nat.le_of_ble_eq_true rfl, Nat.le_of_ble_eq_true rfl⟩
theorem rm_X8_worth__X8_worth : RmOk K_X8_worth_.2.2.2.2 K_X8_worth := ⟨rfl, rfl, Nat.le_of_ble_eq_true rfl, Nat.le_of_ble_eq_true rfl⟩
theorem rm_X8_write_X8_holds : RmOk K_X8_write.2.2.2.2 K_X8_holds := ⟨rfl, rfl, Nat.le_of_ble_eq_true rfl, Nat.le_of_ble_eq_true rfl⟩
theorem rm_X8_write_X8_isBase : RmOk K_X8_write.2.2.2.2 K_X8_isBase := ⟨rfl, rfl, Nat.le_of_ble_eq_true rfl, Nat.le_of_ble_eq_true rfl⟩
theorem rm_X8_write_X8_isReel : RmOk K_X8_write.2.2.2.2 K_X8_isReel := ⟨rfl, rfl, Nat.le_of_ble_eq_true rfl, Nat.le_of_ble_eq_true rfl⟩
theorem rm_X8_write_X8_makes : RmOk K_X8_write.2.2.2.2 K_X8_makes := ⟨rfl, rfl, Nat.le_of_ble_eq_true rfl, Nat.le_of_ble_eq_true rfl⟩
theorem fn_0_1 {b : Nat} (h : shp b = (0, 0, 0)) : fin b 1 = b + 6 :=
  have key : ∀ b, b < 101 → shp b = (0, 0, 0) → fin b 1 = b + 6 := by decide +kernel
  key b (shp_lt h (by decide)) h
theorem sf_0_1 {b : Nat} (h : shp b = (0, 0, 0)) : shp (b + 6) = (1, 0, 43) :=
  have key : ∀ b, b < 101 → shp b = (0, 0, 0) → shp (b + 6) = (1, 0, 43) := by decide +kernel
  key b (shp_lt h (by decide)) h
theorem fn_0_2 {b : Nat} (h : shp b = (0, 0, 0)) : fin b 2 = b + 12 :=
  have key : ∀ b, b < 101 → shp b = (0, 0, 0) → fin b 2 = b + 12 := by decide +kernel
  key b (shp_lt h (by decide)) h
theorem sf_0_2 {b : Nat} (h : shp b = (0, 0, 0)) : shp (b + 12) = (2, 0, 43) :=
  have key : ∀ b, b < 101 → shp b = (0, 0, 0) → shp (b + 12) = (2, 0, 43) := by decide +kernel
  key b (shp_lt h (by decide)) h
theorem fn_2_0 {b : Nat} (h : shp b = (0, 2, 0)) : fin b 0 = b + 3 :=
  have key : ∀ b, b < 101 → shp b = (0, 2, 0) → fin b 0 = b + 3 := by decide +kernel
  key b (shp_lt h (by decide)) h
theorem sf_2_0 {b : Nat} (h : shp b = (0, 2, 0)) : shp (b + 3) = (2, 0, 60) :=
  have key : ∀ b, b < 101 → shp b = (0, 2, 0) → shp (b + 3) = (2, 0, 60) := by decide +kernel
  key b (shp_lt h (by decide)) h
theorem fn_4_1 {b : Nat} (h : shp b = (0, 4, 0)) : fin b 1 = b + 12 :=
  have key : ∀ b, b < 101 → shp b = (0, 4, 0) → fin b 1 = b + 12 := by decide +kernel
  key b (shp_lt h (by decide)) h
theorem sf_4_1 {b : Nat} (h : shp b = (0, 4, 0)) : shp (b + 12) = (1, 0, 43) :=
  have key : ∀ b, b < 101 → shp b = (0, 4, 0) → shp (b + 12) = (1, 0, 43) := by decide +kernel
  key b (shp_lt h (by decide)) h
theorem fn_5_0 {b : Nat} (h : shp b = (0, 5, 0)) : fin b 0 = b + 2 :=
  have key : ∀ b, b < 101 → shp b = (0, 5, 0) → fin b 0 = b + 2 := by decide +kernel
  key b (shp_lt h (by decide)) h
theorem sf_5_0 {b : Nat} (h : shp b = (0, 5, 0)) : shp (b + 2) = (2, 0, 1300) :=
  have key : ∀ b, b < 101 → shp b = (0, 5, 0) → shp (b + 2) = (2, 0, 1300) := by decide +kernel
  key b (shp_lt h (by decide)) h
theorem fn_5_1 {b : Nat} (h : shp b = (0, 5, 0)) : fin b 1 = b + 4 :=
  have key : ∀ b, b < 101 → shp b = (0, 5, 0) → fin b 1 = b + 4 := by decide +kernel
  key b (shp_lt h (by decide)) h
theorem sf_5_1 {b : Nat} (h : shp b = (0, 5, 0)) : shp (b + 4) = (2, 0, 1300) :=
  have key : ∀ b, b < 101 → shp b = (0, 5, 0) → shp (b + 4) = (2, 0, 1300) := by decide +kernel
  key b (shp_lt h (by decide)) h
theorem fn_5_2 {b : Nat} (h : shp b = (0, 5, 0)) : fin b 2 = b + 6 :=
  have key : ∀ b, b < 101 → shp b = (0, 5, 0) → fin b 2 = b + 6 := by decide +kernel
  key b (shp_lt h (by decide)) h
theorem sf_5_2 {b : Nat} (h : shp b = (0, 5, 0)) : shp (b + 6) = (1, 0, 1300) :=
  have key : ∀ b, b < 101 → shp b = (0, 5, 0) → shp (b + 6) = (1, 0, 1300) := by decide +kernel
  key b (shp_lt h (by decide)) h
theorem se_1 {i : Int} (h0 : 0 ≤ i) (h1 : i < 3) : shp (24 + i.toNat) = (0, 0, 0) :=
  have key : ∀ n, n < 3 → shp (24 + n) = (0, 0, 0) := by decide +kernel
  key i.toNat (by omega)
theorem se_2 {i : Int} (h0 : 0 ≤ i) (h1 : i < 3) : shp (27 + i.toNat) = (0, 0, 0) :=
  have key : ∀ n, n < 3 → shp (27 + n) = (0, 0, 0) := by decide +kernel
  key i.toNat (by omega)
theorem se_3 {i : Int} (h0 : 0 ≤ i) (h1 : i < 6) : shp (42 + i.toNat) = (0, 4, 0) :=
  have key : ∀ n, n < 6 → shp (42 + n) = (0, 4, 0) := by decide +kernel
  key i.toNat (by omega)
theorem se_4 {i : Int} (h0 : 0 ≤ i) (h1 : i < 6) : shp (48 + i.toNat) = (0, 4, 0) :=
  have key : ∀ n, n < 6 → shp (48 + n) = (0, 4, 0) := by decide +kernel
  key i.toNat (by omega)
theorem se_5 {i : Int} (h0 : 0 ≤ i) (h1 : i < 3) : shp (66 + i.toNat) = (0, 2, 0) :=
  have key : ∀ n, n < 3 → shp (66 + n) = (0, 2, 0) := by decide +kernel
  key i.toNat (by omega)
theorem sv_3 {a : Nat} {i : Int} (h : shp a = (4, 3, 3)) (h0 : 0 ≤ i) (h1 : i < 3) : shp (fin a i.toNat) = (0, 0, 0) :=
  have key : ∀ a, a < 101 → shp a = (4, 3, 3) → ∀ n, n < 3 → shp (fin a n) = (0, 0, 0) := by decide +kernel
  key a (shp_lt h (by decide)) h i.toNat (by omega)
theorem sv_4 {a : Nat} {i : Int} (h : shp a = (4, 4, 6)) (h0 : 0 ≤ i) (h1 : i < 6) : shp (fin a i.toNat) = (0, 4, 0) :=
  have key : ∀ a, a < 101 → shp a = (4, 4, 6) → ∀ n, n < 6 → shp (fin a n) = (0, 4, 0) := by decide +kernel
  key a (shp_lt h (by decide)) h i.toNat (by omega)
