/-! by program (wip/whole/genctor.py): constructors' rooms, links -/
abbrev K_X1_init : MK := (yX1_init, cX1_init, 1, none, { frames := 1, cells := 2, slots := 528, locals := 12 })
abbrev K_X2_init : MK := (yX2_init, cX2_init, 1, none, { frames := 1, cells := 1, slots := 60, locals := 12 })
abbrev K_X4_init : MK := (yX4_init, cX4_init, 1, none, { frames := 1, cells := 1, slots := 43, locals := 12 })
abbrev K_X5_init : MK := (yX5_init, cX5_init, 1, none, { frames := 1, cells := 3, slots := 3900, locals := 12 })
abbrev K_X6_init : MK := (yX6_init, cX6_init, 1, none, { frames := 1, cells := 1, slots := 80, locals := 12 })
abbrev K_X3_init : MK := (yX3_init, cX3_init, 1, none, { frames := 2, cells := 9, slots := 7818, locals := 32 })
abbrev K_X0_init : MK := (yX0_init, cX0_init, 2, none, { frames := 2, cells := 2, slots := 86, locals := 51 })
theorem lq_X1_11 : LkQ RX1 11 1 0 true (.array .int) := ⟨(RX1, TX1, 3), tyX1, rfl, by decide, (wmem 91 (by decide +kernel) rfl), inX1, tyX1_ok 0 (by decide), tyX1_ok, nmX1, rfl, rfl, rfl⟩
theorem lq_X1_15 : LkQ RX1 15 1 1 true (.array .int) := ⟨(RX1, TX1, 3), tyX1, rfl, by decide, (wmem 92 (by decide +kernel) rfl), inX1, tyX1_ok 1 (by decide), tyX1_ok, nmX1, rfl, rfl, rfl⟩
theorem lq_X1_18 : LkQ RX1 18 1 2 false .int := ⟨(RX1, TX1, 3), tyX1, rfl, by decide, (wmem 93 (by decide +kernel) rfl), inX1, tyX1_ok 2 (by decide), tyX1_ok, nmX1, rfl, rfl, rfl⟩
theorem lq_X2_11 : LkQ RX2 11 2 0 true (.array .long) := ⟨(RX2, TX2, 2), tyX2, rfl, by decide, (wmem 211 (by decide +kernel) rfl), inX2, tyX2_ok 0 (by decide), tyX2_ok, nmX2, rfl, rfl, rfl⟩
theorem lq_X2_15 : LkQ RX2 15 2 1 false .int := ⟨(RX2, TX2, 2), tyX2, rfl, by decide, (wmem 213 (by decide +kernel) rfl), inX2, tyX2_ok 1 (by decide), tyX2_ok, nmX2, rfl, rfl, rfl⟩
theorem lq_X4_9 : LkQ RX4 9 4 0 false (.object "SummedBases$Base") := ⟨(RX4, TX4, 2), tyX4, rfl, by decide, (wmem 197 (by decide +kernel) rfl), inX4, tyX4_ok 0 (by decide), tyX4_ok, nmX4, rfl, rfl, rfl⟩
theorem lq_X4_15 : LkQ RX4 15 4 1 true (.array .int) := ⟨(RX4, TX4, 2), tyX4, rfl, by decide, (wmem 199 (by decide +kernel) rfl), inX4, tyX4_ok 1 (by decide), tyX4_ok, nmX4, rfl, rfl, rfl⟩
theorem lq_X5_9 : LkQ RX5 9 5 0 true (.array .long) := ⟨(RX5, TX5, 4), tyX5, rfl, by decide, (wmem 114 (by decide +kernel) rfl), inX5, tyX5_ok 0 (by decide), tyX5_ok, nmX5, rfl, rfl, rfl⟩
theorem lq_X5_13 : LkQ RX5 13 5 1 true (.array .long) := ⟨(RX5, TX5, 4), tyX5, rfl, by decide, (wmem 116 (by decide +kernel) rfl), inX5, tyX5_ok 1 (by decide), tyX5_ok, nmX5, rfl, rfl, rfl⟩
theorem lq_X5_16 : LkQ RX5 16 5 2 true (.array .int) := ⟨(RX5, TX5, 4), tyX5, rfl, by decide, (wmem 119 (by decide +kernel) rfl), inX5, tyX5_ok 2 (by decide), tyX5_ok, nmX5, rfl, rfl, rfl⟩
theorem lq_X5_20 : LkQ RX5 20 5 3 false .int := ⟨(RX5, TX5, 4), tyX5, rfl, by decide, (wmem 122 (by decide +kernel) rfl), inX5, tyX5_ok 3 (by decide), tyX5_ok, nmX5, rfl, rfl, rfl⟩
theorem lq_X6_11 : LkQ RX6 11 6 0 true (.array .int) := ⟨(RX6, TX6, 2), tyX6, rfl, by decide, (wmem 76 (by decide +kernel) rfl), inX6, tyX6_ok 0 (by decide), tyX6_ok, nmX6, rfl, rfl, rfl⟩
theorem lq_X6_15 : LkQ RX6 15 6 1 false .int := ⟨(RX6, TX6, 2), tyX6, rfl, by decide, (wmem 77 (by decide +kernel) rfl), inX6, tyX6_ok 1 (by decide), tyX6_ok, nmX6, rfl, rfl, rfl⟩
set_option maxRecDepth 100000 in
theorem lj_X3_11 : LkJ 11 0 RX3 K_X5_init := ⟨fun U h => h.2.1.1, (wmem 49 (by decide +kernel) rfl), (wmem 112 rfl rfl), ⟨by decide, by decide, by decide +kernel⟩, (wmem 111 (by decide +kernel) rfl), rfl, rfl⟩
theorem lq_X3_12 : LkQ RX3 12 3 0 false (.object "SummedBases$Rests") := ⟨(RX3, TX3, 3), tyX3, rfl, by decide, (wmem 135 (by decide +kernel) rfl), inX3, tyX3_ok 0 (by decide), tyX3_ok, nmX3, rfl, rfl, rfl⟩
theorem lq_X3_18 : LkQ RX3 18 3 1 false (.object "SummedBases$Rests") := ⟨(RX3, TX3, 3), tyX3, rfl, by decide, (wmem 136 (by decide +kernel) rfl), inX3, tyX3_ok 1 (by decide), tyX3_ok, nmX3, rfl, rfl, rfl⟩
theorem lq_X3_21 : LkQ RX3 21 3 2 true (.array .int) := ⟨(RX3, TX3, 3), tyX3, rfl, by decide, (wmem 137 (by decide +kernel) rfl), inX3, tyX3_ok 2 (by decide), tyX3_ok, nmX3, rfl, rfl, rfl⟩
theorem lq_X0_9 : LkQ RX0 9 0 1 true (.array .int) := ⟨(RX0, TX0, 6), tyX0, rfl, by decide, (wmem 167 (by decide +kernel) rfl), inX0, tyX0_ok 1 (by decide), tyX0_ok, nmX0, rfl, rfl, rfl⟩
theorem lq_X0_15 : LkQ RX0 15 0 2 true (.array .long) := ⟨(RX0, TX0, 6), tyX0, rfl, by decide, (wmem 169 (by decide +kernel) rfl), inX0, tyX0_ok 2 (by decide), tyX0_ok, nmX0, rfl, rfl, rfl⟩
theorem lq_X0_19 : LkQ RX0 19 0 0 true .int := ⟨(RX0, TX0, 6), tyX0, rfl, by decide, (wmem 165 (by decide +kernel) rfl), inX0, tyX0_ok 0 (by decide), tyX0_ok, nmX0, rfl, rfl, rfl⟩
set_option maxRecDepth 100000 in
theorem lv_X0_23 : LkV 23 2 RX0 K_X0_tell := ⟨⟨(wmem 150 (by decide +kernel) rfl), (wmem 50 (by decide +kernel) rfl), (wmem 153 rfl rfl), by decide, by decide, by decide +kernel⟩, (wmem 151 (by decide +kernel) rfl), (wmem 152 (by decide +kernel) rfl)⟩
theorem dfX0 : ∀ j, j < 6 → defaultValue (tyX0 j) = vp_V [.int (iI 0), .null, .null, .int (iI 0), .int (iI 0), .long (lI 0)] j := by
  intro j hj
  rcases (show j = 0 ∨ j = 1 ∨ j = 2 ∨ j = 3 ∨ j = 4 ∨ j = 5 by omega) with rfl | rfl | rfl | rfl | rfl | rfl <;> rfl
theorem dfX1 : ∀ j, j < 3 → defaultValue (tyX1 j) = vp_V [.null, .null, .int (iI 0)] j := by
  intro j hj
  rcases (show j = 0 ∨ j = 1 ∨ j = 2 by omega) with rfl | rfl | rfl <;> rfl
theorem dfX2 : ∀ j, j < 2 → defaultValue (tyX2 j) = vp_V [.null, .int (iI 0)] j := by
  intro j hj
  rcases (show j = 0 ∨ j = 1 by omega) with rfl | rfl <;> rfl
theorem dfX3 : ∀ j, j < 3 → defaultValue (tyX3 j) = vp_V [.null, .null, .null] j := by
  intro j hj
  rcases (show j = 0 ∨ j = 1 ∨ j = 2 by omega) with rfl | rfl | rfl <;> rfl
theorem dfX4 : ∀ j, j < 2 → defaultValue (tyX4 j) = vp_V [.null, .null] j := by
  intro j hj
  rcases (show j = 0 ∨ j = 1 by omega) with rfl | rfl <;> rfl
theorem dfX5 : ∀ j, j < 4 → defaultValue (tyX5 j) = vp_V [.null, .null, .null, .int (iI 0)] j := by
  intro j hj
  rcases (show j = 0 ∨ j = 1 ∨ j = 2 ∨ j = 3 by omega) with rfl | rfl | rfl | rfl <;> rfl
theorem dfX6 : ∀ j, j < 2 → defaultValue (tyX6 j) = vp_V [.null, .int (iI 0)] j := by
  intro j hj
  rcases (show j = 0 ∨ j = 1 by omega) with rfl | rfl <;> rfl
theorem dfX7 : ∀ j, j < 12 → defaultValue (tyX7 j) = vp_V [.null, .null, .null, .null, .null, .null, .null, .null, .int (iI 0), .null, .null, .null] j := by
  intro j hj
  rcases (show j = 0 ∨ j = 1 ∨ j = 2 ∨ j = 3 ∨ j = 4 ∨ j = 5 ∨ j = 6 ∨ j = 7 ∨ j = 8 ∨ j = 9 ∨ j = 10 ∨ j = 11 by omega) with rfl | rfl | rfl | rfl | rfl | rfl | rfl | rfl | rfl | rfl | rfl | rfl <;> rfl
theorem dfX8 : ∀ j, j < 34 → defaultValue (tyX8 j) = vp_V [.null, .null, .null, .null, .null, .null, .null, .null, .null, .null, .int (iI 0), .null, .null, .null, .null, .int (iI 0), .null, .null, .null, .int (iI 0), .null, .null, .null, .int (iI 0), .int (iI 0), .null, .null, .null, .null, .null, .null, .null, .null, .int (iI 0)] j := by
  intro j hj
  rcases (show j = 0 ∨ j = 1 ∨ j = 2 ∨ j = 3 ∨ j = 4 ∨ j = 5 ∨ j = 6 ∨ j = 7 ∨ j = 8 ∨ j = 9 ∨ j = 10 ∨ j = 11 ∨ j = 12 ∨ j = 13 ∨ j = 14 ∨ j = 15 ∨ j = 16 ∨ j = 17 ∨ j = 18 ∨ j = 19 ∨ j = 20 ∨ j = 21 ∨ j = 22 ∨ j = 23 ∨ j = 24 ∨ j = 25 ∨ j = 26 ∨ j = 27 ∨ j = 28 ∨ j = 29 ∨ j = 30 ∨ j = 31 ∨ j = 32 ∨ j = 33 by omega) with rfl | rfl | rfl | rfl | rfl | rfl | rfl | rfl | rfl | rfl | rfl | rfl | rfl | rfl | rfl | rfl | rfl | rfl | rfl | rfl | rfl | rfl | rfl | rfl | rfl | rfl | rfl | rfl | rfl | rfl | rfl | rfl | rfl | rfl <;> rfl
