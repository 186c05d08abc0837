/-! by program (wip/whole/genctor.py): constructors' rooms, links -/
abbrev K_X1_init : MK := (yX1_init, cX1_init, 1, none, { frames := 1, cells := 2, slots := 528, locals := 12 })
abbrev K_X2_init : MK := (yX2_init, cX2_init, 1, none, { frames := 1, cells := 1, slots := 60, locals := 12 })
abbrev K_X4_init : MK := (yX4_init, cX4_init, 1, none, { frames := 1, cells := 1, slots := 43, locals := 12 })
abbrev K_X5_init : MK := (yX5_init, cX5_init, 1, none, { frames := 1, cells := 3, slots := 3900, locals := 12 })
abbrev K_X6_init : MK := (yX6_init, cX6_init, 1, none, { frames := 1, cells := 1, slots := 80, locals := 12 })
abbrev K_X3_init : MK := (yX3_init, cX3_init, 1, none, { frames := 2, cells := 9, slots := 7818, locals := 32 })
abbrev K_X0_init : MK := (yX0_init, cX0_init, 2, none, { frames := 2, cells := 2, slots := 86, locals := 51 })
abbrev K_X7_init : MK := (yX7_init, cX7_init, 2, none, { frames := 3, cells := 71, slots := 9947, locals := 72 })
abbrev K_X8_init : MK := (yX8_init, cX8_init, 2, none, { frames := 2, cells := 28, slots := 116708, locals := 50 })
theorem lq_X1_11 : LkQ RX1 11 1 0 true (.array .int) := ⟨(RX1, TX1, 3), tyX1, rfl, by decide, (wmem 91 (by decide +kernel) rfl), inX1, tyX1_ok 0 (by decide), tyX1_ok, nmX1, rfl, rfl, rfl⟩
theorem lq_X1_15 : LkQ RX1 15 1 1 true (.array .int) := ⟨(RX1, TX1, 3), tyX1, rfl, by decide, (wmem 92 (by decide +kernel) rfl), inX1, tyX1_ok 1 (by decide), tyX1_ok, nmX1, rfl, rfl, rfl⟩
theorem lq_X1_18 : LkQ RX1 18 1 2 false .int := ⟨(RX1, TX1, 3), tyX1, rfl, by decide, (wmem 93 (by decide +kernel) rfl), inX1, tyX1_ok 2 (by decide), tyX1_ok, nmX1, rfl, rfl, rfl⟩
theorem lq_X2_11 : LkQ RX2 11 2 0 true (.array .long) := ⟨(RX2, TX2, 2), tyX2, rfl, by decide, (wmem 211 (by decide +kernel) rfl), inX2, tyX2_ok 0 (by decide), tyX2_ok, nmX2, rfl, rfl, rfl⟩
theorem lq_X2_15 : LkQ RX2 15 2 1 false .int := ⟨(RX2, TX2, 2), tyX2, rfl, by decide, (wmem 213 (by decide +kernel) rfl), inX2, tyX2_ok 1 (by decide), tyX2_ok, nmX2, rfl, rfl, rfl⟩
theorem lq_X4_9 : LkQ RX4 9 4 0 false (.object "SummedBases$Base") := ⟨(RX4, TX4, 2), tyX4, rfl, by decide, (wmem 197 (by decide +kernel) rfl), inX4, tyX4_ok 0 (by decide), tyX4_ok, nmX4, rfl, rfl, rfl⟩
theorem lq_X4_15 : LkQ RX4 15 4 1 true (.array .int) := ⟨(RX4, TX4, 2), tyX4, rfl, by decide, (wmem 199 (by decide +kernel) rfl), inX4, tyX4_ok 1 (by decide), tyX4_ok, nmX4, rfl, rfl, rfl⟩
theorem lq_X5_9 : LkQ RX5 9 5 0 true (.array .long) := ⟨(RX5, TX5, 4), tyX5, rfl, by decide, (wmem 114 (by decide +kernel) rfl), inX5, tyX5_ok 0 (by decide), tyX5_ok, nmX5, rfl, rfl, rfl⟩
theorem lq_X5_13 : LkQ RX5 13 5 1 true (.array .long) := ⟨(RX5, TX5, 4), tyX5, rfl, by decide, (wmem 116 (by decide +kernel) rfl), inX5, tyX5_ok 1 (by decide), tyX5_ok, nmX5, rfl, rfl, rfl⟩
theorem lq_X5_16 : LkQ RX5 16 5 2 true (.array .int) := ⟨(RX5, TX5, 4), tyX5, rfl, by decide, (wmem 119 (by decide +kernel) rfl), inX5, tyX5_ok 2 (by decide), tyX5_ok, nmX5, rfl, rfl, rfl⟩
theorem lq_X5_20 : LkQ RX5 20 5 3 false .int := ⟨(RX5, TX5, 4), tyX5, rfl, by decide, (wmem 122 (by decide +kernel) rfl), inX5, tyX5_ok 3 (by decide), tyX5_ok, nmX5, rfl, rfl, rfl⟩
theorem lq_X6_11 : LkQ RX6 11 6 0 true (.array .int) := ⟨(RX6, TX6, 2), tyX6, rfl, by decide, (wmem 76 (by decide +kernel) rfl), inX6, tyX6_ok 0 (by decide), tyX6_ok, nmX6, rfl, rfl, rfl⟩
theorem lq_X6_15 : LkQ RX6 15 6 1 false .int := ⟨(RX6, TX6, 2), tyX6, rfl, by decide, (wmem 77 (by decide +kernel) rfl), inX6, tyX6_ok 1 (by decide), tyX6_ok, nmX6, rfl, rfl, rfl⟩
set_option maxRecDepth 100000 in
theorem lj_X3_11 : LkJ 11 0 RX3 K_X5_init := ⟨fun U h => h.2.1.1, (wmem 49 (by decide +kernel) rfl), (wmem 112 rfl rfl), ⟨by decide, by decide, by decide +kernel⟩, (wmem 111 (by decide +kernel) rfl), rfl, rfl⟩
theorem lq_X3_12 : LkQ RX3 12 3 0 false (.object "SummedBases$Rests") := ⟨(RX3, TX3, 3), tyX3, rfl, by decide, (wmem 135 (by decide +kernel) rfl), inX3, tyX3_ok 0 (by decide), tyX3_ok, nmX3, rfl, rfl, rfl⟩
theorem lq_X3_18 : LkQ RX3 18 3 1 false (.object "SummedBases$Rests") := ⟨(RX3, TX3, 3), tyX3, rfl, by decide, (wmem 136 (by decide +kernel) rfl), inX3, tyX3_ok 1 (by decide), tyX3_ok, nmX3, rfl, rfl, rfl⟩
theorem lq_X3_21 : LkQ RX3 21 3 2 true (.array .int) := ⟨(RX3, TX3, 3), tyX3, rfl, by decide, (wmem 137 (by decide +kernel) rfl), inX3, tyX3_ok 2 (by decide), tyX3_ok, nmX3, rfl, rfl, rfl⟩
theorem lq_X0_9 : LkQ RX0 9 0 1 true (.array .int) := ⟨(RX0, TX0, 6), tyX0, rfl, by decide, (wmem 167 (by decide +kernel) rfl), inX0, tyX0_ok 1 (by decide), tyX0_ok, nmX0, rfl, rfl, rfl⟩
theorem lq_X0_15 : LkQ RX0 15 0 2 true (.array .long) := ⟨(RX0, TX0, 6), tyX0, rfl, by decide, (wmem 169 (by decide +kernel) rfl), inX0, tyX0_ok 2 (by decide), tyX0_ok, nmX0, rfl, rfl, rfl⟩
theorem lq_X0_19 : LkQ RX0 19 0 0 true .int := ⟨(RX0, TX0, 6), tyX0, rfl, by decide, (wmem 165 (by decide +kernel) rfl), inX0, tyX0_ok 0 (by decide), tyX0_ok, nmX0, rfl, rfl, rfl⟩
set_option maxRecDepth 100000 in
theorem lv_X0_23 : LkV 23 2 RX0 K_X0_tell := ⟨⟨(wmem 150 (by decide +kernel) rfl), (wmem 50 (by decide +kernel) rfl), (wmem 153 rfl rfl), by decide, by decide, by decide +kernel⟩, (wmem 151 (by decide +kernel) rfl), (wmem 152 (by decide +kernel) rfl)⟩
theorem lq_X7_13 : LkQ RX7 13 7 0 true (.array (.object "SummedBases$Base")) := ⟨(RX7, TX7, 12), tyX7, rfl, by decide, (wmem 219 (by decide +kernel) rfl), inX7, tyX7_ok 0 (by decide), tyX7_ok, nmX7, rfl, rfl, rfl⟩
theorem lq_X7_19 : LkQ RX7 19 7 1 true (.array (.object "SummedBases$Reel")) := ⟨(RX7, TX7, 12), tyX7, rfl, by decide, (wmem 220 (by decide +kernel) rfl), inX7, tyX7_ok 1 (by decide), tyX7_ok, nmX7, rfl, rfl, rfl⟩
theorem lq_X7_25 : LkQ RX7 25 7 2 true (.array (.object "SummedBases$LongRow")) := ⟨(RX7, TX7, 12), tyX7, rfl, by decide, (wmem 221 (by decide +kernel) rfl), inX7, tyX7_ok 2 (by decide), tyX7_ok, nmX7, rfl, rfl, rfl⟩
set_option maxRecDepth 100000 in
theorem lj_X7_31 : LkJ 31 0 RX7 K_X6_init := ⟨fun U h => h.1.1, (wmem 46 (by decide +kernel) rfl), (wmem 74 rfl rfl), ⟨by decide, by decide, by decide +kernel⟩, (wmem 73 (by decide +kernel) rfl), rfl, rfl⟩
theorem lq_X7_32 : LkQ RX7 32 7 3 true (.object "SummedBases$Tape") := ⟨(RX7, TX7, 12), tyX7, rfl, by decide, (wmem 222 (by decide +kernel) rfl), inX7, tyX7_ok 3 (by decide), tyX7_ok, nmX7, rfl, rfl, rfl⟩
set_option maxRecDepth 100000 in
theorem lj_X7_38 : LkJ 38 0 RX7 K_X1_init := ⟨fun U h => h.1.2.1, (wmem 47 (by decide +kernel) rfl), (wmem 89 rfl rfl), ⟨by decide, by decide, by decide +kernel⟩, (wmem 88 (by decide +kernel) rfl), rfl, rfl⟩
theorem lq_X7_39 : LkQ RX7 39 7 4 true (.object "SummedBases$Deeds") := ⟨(RX7, TX7, 12), tyX7, rfl, by decide, (wmem 223 (by decide +kernel) rfl), inX7, tyX7_ok 4 (by decide), tyX7_ok, nmX7, rfl, rfl, rfl⟩
set_option maxRecDepth 100000 in
theorem lj_X7_45 : LkJ 45 0 RX7 K_X3_init := ⟨fun U h => h.1.2.2, (wmem 48 (by decide +kernel) rfl), (wmem 106 rfl rfl), ⟨by decide, by decide, by decide +kernel⟩, (wmem 105 (by decide +kernel) rfl), rfl, rfl⟩
theorem lq_X7_46 : LkQ RX7 46 7 5 true (.object "SummedBases$Makings") := ⟨(RX7, TX7, 12), tyX7, rfl, by decide, (wmem 224 (by decide +kernel) rfl), inX7, tyX7_ok 5 (by decide), tyX7_ok, nmX7, rfl, rfl, rfl⟩
theorem lq_X7_50 : LkQ RX7 50 7 6 true (.array (.object "SummedBases$Base")) := ⟨(RX7, TX7, 12), tyX7, rfl, by decide, (wmem 225 (by decide +kernel) rfl), inX7, tyX7_ok 6 (by decide), tyX7_ok, nmX7, rfl, rfl, rfl⟩
theorem lq_X7_53 : LkQ RX7 53 7 7 true (.array (.object "SummedBases$Reel")) := ⟨(RX7, TX7, 12), tyX7, rfl, by decide, (wmem 226 (by decide +kernel) rfl), inX7, tyX7_ok 7 (by decide), tyX7_ok, nmX7, rfl, rfl, rfl⟩
theorem lq_X7_56 : LkQ RX7 56 7 8 false .boolean := ⟨(RX7, TX7, 12), tyX7, rfl, by decide, (wmem 227 (by decide +kernel) rfl), inX7, tyX7_ok 8 (by decide), tyX7_ok, nmX7, rfl, rfl, rfl⟩
theorem lq_X7_60 : LkQ RX7 60 7 9 true (.array .int) := ⟨(RX7, TX7, 12), tyX7, rfl, by decide, (wmem 228 (by decide +kernel) rfl), inX7, tyX7_ok 9 (by decide), tyX7_ok, nmX7, rfl, rfl, rfl⟩
theorem lq_X7_64 : LkQ RX7 64 7 10 true (.array .int) := ⟨(RX7, TX7, 12), tyX7, rfl, by decide, (wmem 229 (by decide +kernel) rfl), inX7, tyX7_ok 10 (by decide), tyX7_ok, nmX7, rfl, rfl, rfl⟩
theorem lq_X7_67 : LkQ RX7 67 7 11 true (.array .int) := ⟨(RX7, TX7, 12), tyX7, rfl, by decide, (wmem 230 (by decide +kernel) rfl), inX7, tyX7_ok 11 (by decide), tyX7_ok, nmX7, rfl, rfl, rfl⟩
set_option maxRecDepth 100000 in
theorem li_X7_70 : LkI 70 1 RX7 K_X0_init := ⟨⟨(wmem 146 (by decide +kernel) rfl), (wmem 50 (by decide +kernel) rfl), (wmem 148 rfl rfl), by decide, by decide, by decide +kernel⟩, (wmem 147 (by decide +kernel) rfl), rfl, rfl⟩
set_option maxRecDepth 100000 in
theorem lj_X7_73 : LkJ 73 0 RX7 K_X4_init := ⟨fun U h => h.2.1.2.1, (wmem 52 (by decide +kernel) rfl), (wmem 195 rfl rfl), ⟨by decide, by decide, by decide +kernel⟩, (wmem 194 (by decide +kernel) rfl), rfl, rfl⟩
set_option maxRecDepth 100000 in
theorem lj_X7_74 : LkJ 74 0 RX7 K_X2_init := ⟨fun U h => h.2.1.2.2, (wmem 53 (by decide +kernel) rfl), (wmem 209 rfl rfl), ⟨by decide, by decide, by decide +kernel⟩, (wmem 208 (by decide +kernel) rfl), rfl, rfl⟩
theorem lq_X8_11 : LkQ RX8 11 8 0 true (.array .int) := ⟨(RX8, TX8, 34), tyX8, rfl, by decide, (wmem 652 (by decide +kernel) rfl), inX8, tyX8_ok 0 (by decide), tyX8_ok, nmX8, rfl, rfl, rfl⟩
theorem lq_X8_15 : LkQ RX8 15 8 1 true (.array .int) := ⟨(RX8, TX8, 34), tyX8, rfl, by decide, (wmem 653 (by decide +kernel) rfl), inX8, tyX8_ok 1 (by decide), tyX8_ok, nmX8, rfl, rfl, rfl⟩
theorem lq_X8_18 : LkQ RX8 18 8 2 true (.array .int) := ⟨(RX8, TX8, 34), tyX8, rfl, by decide, (wmem 654 (by decide +kernel) rfl), inX8, tyX8_ok 2 (by decide), tyX8_ok, nmX8, rfl, rfl, rfl⟩
theorem lq_X8_21 : LkQ RX8 21 8 3 true (.array .long) := ⟨(RX8, TX8, 34), tyX8, rfl, by decide, (wmem 655 (by decide +kernel) rfl), inX8, tyX8_ok 3 (by decide), tyX8_ok, nmX8, rfl, rfl, rfl⟩
theorem lq_X8_25 : LkQ RX8 25 8 4 true (.array .long) := ⟨(RX8, TX8, 34), tyX8, rfl, by decide, (wmem 656 (by decide +kernel) rfl), inX8, tyX8_ok 4 (by decide), tyX8_ok, nmX8, rfl, rfl, rfl⟩
theorem lq_X8_28 : LkQ RX8 28 8 5 true (.array .int) := ⟨(RX8, TX8, 34), tyX8, rfl, by decide, (wmem 657 (by decide +kernel) rfl), inX8, tyX8_ok 5 (by decide), tyX8_ok, nmX8, rfl, rfl, rfl⟩
theorem lq_X8_31 : LkQ RX8 31 8 6 true (.array .int) := ⟨(RX8, TX8, 34), tyX8, rfl, by decide, (wmem 658 (by decide +kernel) rfl), inX8, tyX8_ok 6 (by decide), tyX8_ok, nmX8, rfl, rfl, rfl⟩
theorem lq_X8_34 : LkQ RX8 34 8 7 true (.array .int) := ⟨(RX8, TX8, 34), tyX8, rfl, by decide, (wmem 659 (by decide +kernel) rfl), inX8, tyX8_ok 7 (by decide), tyX8_ok, nmX8, rfl, rfl, rfl⟩
theorem lq_X8_37 : LkQ RX8 37 8 8 true (.array .int) := ⟨(RX8, TX8, 34), tyX8, rfl, by decide, (wmem 660 (by decide +kernel) rfl), inX8, tyX8_ok 8 (by decide), tyX8_ok, nmX8, rfl, rfl, rfl⟩
theorem lq_X8_40 : LkQ RX8 40 8 9 true (.array .int) := ⟨(RX8, TX8, 34), tyX8, rfl, by decide, (wmem 661 (by decide +kernel) rfl), inX8, tyX8_ok 9 (by decide), tyX8_ok, nmX8, rfl, rfl, rfl⟩
theorem lq_X8_43 : LkQ RX8 43 8 11 true (.array .long) := ⟨(RX8, TX8, 34), tyX8, rfl, by decide, (wmem 663 (by decide +kernel) rfl), inX8, tyX8_ok 11 (by decide), tyX8_ok, nmX8, rfl, rfl, rfl⟩
theorem lq_X8_46 : LkQ RX8 46 8 12 true (.array .long) := ⟨(RX8, TX8, 34), tyX8, rfl, by decide, (wmem 664 (by decide +kernel) rfl), inX8, tyX8_ok 12 (by decide), tyX8_ok, nmX8, rfl, rfl, rfl⟩
theorem lq_X8_49 : LkQ RX8 49 8 13 true (.array .int) := ⟨(RX8, TX8, 34), tyX8, rfl, by decide, (wmem 665 (by decide +kernel) rfl), inX8, tyX8_ok 13 (by decide), tyX8_ok, nmX8, rfl, rfl, rfl⟩
theorem lq_X8_52 : LkQ RX8 52 8 14 true (.array .int) := ⟨(RX8, TX8, 34), tyX8, rfl, by decide, (wmem 666 (by decide +kernel) rfl), inX8, tyX8_ok 14 (by decide), tyX8_ok, nmX8, rfl, rfl, rfl⟩
theorem lq_X8_55 : LkQ RX8 55 8 16 true (.array .long) := ⟨(RX8, TX8, 34), tyX8, rfl, by decide, (wmem 668 (by decide +kernel) rfl), inX8, tyX8_ok 16 (by decide), tyX8_ok, nmX8, rfl, rfl, rfl⟩
theorem lq_X8_58 : LkQ RX8 58 8 17 true (.array .long) := ⟨(RX8, TX8, 34), tyX8, rfl, by decide, (wmem 669 (by decide +kernel) rfl), inX8, tyX8_ok 17 (by decide), tyX8_ok, nmX8, rfl, rfl, rfl⟩
theorem lq_X8_61 : LkQ RX8 61 8 18 true (.array .int) := ⟨(RX8, TX8, 34), tyX8, rfl, by decide, (wmem 670 (by decide +kernel) rfl), inX8, tyX8_ok 18 (by decide), tyX8_ok, nmX8, rfl, rfl, rfl⟩
theorem lq_X8_64 : LkQ RX8 64 8 20 true (.array .int) := ⟨(RX8, TX8, 34), tyX8, rfl, by decide, (wmem 672 (by decide +kernel) rfl), inX8, tyX8_ok 20 (by decide), tyX8_ok, nmX8, rfl, rfl, rfl⟩
theorem lq_X8_67 : LkQ RX8 67 8 21 true (.array .int) := ⟨(RX8, TX8, 34), tyX8, rfl, by decide, (wmem 673 (by decide +kernel) rfl), inX8, tyX8_ok 21 (by decide), tyX8_ok, nmX8, rfl, rfl, rfl⟩
theorem lq_X8_70 : LkQ RX8 70 8 22 true (.array .int) := ⟨(RX8, TX8, 34), tyX8, rfl, by decide, (wmem 674 (by decide +kernel) rfl), inX8, tyX8_ok 22 (by decide), tyX8_ok, nmX8, rfl, rfl, rfl⟩
theorem lq_X8_73 : LkQ RX8 73 8 25 true (.array .boolean) := ⟨(RX8, TX8, 34), tyX8, rfl, by decide, (wmem 677 (by decide +kernel) rfl), inX8, tyX8_ok 25 (by decide), tyX8_ok, nmX8, rfl, rfl, rfl⟩
theorem lq_X8_77 : LkQ RX8 77 8 26 true (.array .int) := ⟨(RX8, TX8, 34), tyX8, rfl, by decide, (wmem 678 (by decide +kernel) rfl), inX8, tyX8_ok 26 (by decide), tyX8_ok, nmX8, rfl, rfl, rfl⟩
theorem lq_X8_80 : LkQ RX8 80 8 27 true (.array .long) := ⟨(RX8, TX8, 34), tyX8, rfl, by decide, (wmem 679 (by decide +kernel) rfl), inX8, tyX8_ok 27 (by decide), tyX8_ok, nmX8, rfl, rfl, rfl⟩
theorem lq_X8_83 : LkQ RX8 83 8 28 true (.array .long) := ⟨(RX8, TX8, 34), tyX8, rfl, by decide, (wmem 680 (by decide +kernel) rfl), inX8, tyX8_ok 28 (by decide), tyX8_ok, nmX8, rfl, rfl, rfl⟩
theorem lq_X8_86 : LkQ RX8 86 8 29 true (.array .int) := ⟨(RX8, TX8, 34), tyX8, rfl, by decide, (wmem 681 (by decide +kernel) rfl), inX8, tyX8_ok 29 (by decide), tyX8_ok, nmX8, rfl, rfl, rfl⟩
theorem lq_X8_89 : LkQ RX8 89 8 30 true (.array .int) := ⟨(RX8, TX8, 34), tyX8, rfl, by decide, (wmem 682 (by decide +kernel) rfl), inX8, tyX8_ok 30 (by decide), tyX8_ok, nmX8, rfl, rfl, rfl⟩
theorem lq_X8_92 : LkQ RX8 92 8 31 true (.array .int) := ⟨(RX8, TX8, 34), tyX8, rfl, by decide, (wmem 683 (by decide +kernel) rfl), inX8, tyX8_ok 31 (by decide), tyX8_ok, nmX8, rfl, rfl, rfl⟩
theorem lq_X8_95 : LkQ RX8 95 8 32 true (.array .int) := ⟨(RX8, TX8, 34), tyX8, rfl, by decide, (wmem 684 (by decide +kernel) rfl), inX8, tyX8_ok 32 (by decide), tyX8_ok, nmX8, rfl, rfl, rfl⟩
theorem dfX0 : ∀ j, j < 6 → defaultValue (tyX0 j) = vp_V [.int (iI 0), .null, .null, .int (iI 0), .int (iI 0), .long (lI 0)] j := by
  intro j hj
  rcases (show j = 0 ∨ j = 1 ∨ j = 2 ∨ j = 3 ∨ j = 4 ∨ j = 5 by omega) with rfl | rfl | rfl | rfl | rfl | rfl <;> rfl
theorem dfX1 : ∀ j, j < 3 → defaultValue (tyX1 j) = vp_V [.null, .null, .int (iI 0)] j := by
  intro j hj
  rcases (show j = 0 ∨ j = 1 ∨ j = 2 by omega) with rfl | rfl | rfl <;> rfl
theorem dfX2 : ∀ j, j < 2 → defaultValue (tyX2 j) = vp_V [.null, .int (iI 0)] j := by
  intro j hj
  rcases (show j = 0 ∨ j = 1 by omega) with rfl | rfl <;> rfl
theorem dfX3 : ∀ j, j < 3 → defaultValue (tyX3 j) = vp_V [.null, .null, .null] j := by
  intro j hj
  rcases (show j = 0 ∨ j = 1 ∨ j = 2 by omega) with rfl | rfl | rfl <;> rfl
theorem dfX4 : ∀ j, j < 2 → defaultValue (tyX4 j) = vp_V [.null, .null] j := by
  intro j hj
  rcases (show j = 0 ∨ j = 1 by omega) with rfl | rfl <;> rfl
theorem dfX5 : ∀ j, j < 4 → defaultValue (tyX5 j) = vp_V [.null, .null, .null, .int (iI 0)] j := by
  intro j hj
  rcases (show j = 0 ∨ j = 1 ∨ j = 2 ∨ j = 3 by omega) with rfl | rfl | rfl | rfl <;> rfl
theorem dfX6 : ∀ j, j < 2 → defaultValue (tyX6 j) = vp_V [.null, .int (iI 0)] j := by
  intro j hj
  rcases (show j = 0 ∨ j = 1 by omega) with rfl | rfl <;> rfl
theorem dfX7 : ∀ j, j < 12 → defaultValue (tyX7 j) = vp_V [.null, .null, .null, .null, .null, .null, .null, .null, .int (iI 0), .null, .null, .null] j := by
  intro j hj
  rcases (show j = 0 ∨ j = 1 ∨ j = 2 ∨ j = 3 ∨ j = 4 ∨ j = 5 ∨ j = 6 ∨ j = 7 ∨ j = 8 ∨ j = 9 ∨ j = 10 ∨ j = 11 by omega) with rfl | rfl | rfl | rfl | rfl | rfl | rfl | rfl | rfl | rfl | rfl | rfl <;> rfl
theorem dfX8 : ∀ j, j < 34 → defaultValue (tyX8 j) = vp_V [.null, .null, .null, .null, .null, .null, .null, .null, .null, .null, .int (iI 0), .null, .null, .null, .null, .int (iI 0), .null, .null, .null, .int (iI 0), .null, .null, .null, .int (iI 0), .int (iI 0), .null, .null, .null, .null, .null, .null, .null, .null, .int (iI 0)] j := by
  intro j hj
  rcases (show j = 0 ∨ j = 1 ∨ j = 2 ∨ j = 3 ∨ j = 4 ∨ j = 5 ∨ j = 6 ∨ j = 7 ∨ j = 8 ∨ j = 9 ∨ j = 10 ∨ j = 11 ∨ j = 12 ∨ j = 13 ∨ j = 14 ∨ j = 15 ∨ j = 16 ∨ j = 17 ∨ j = 18 ∨ j = 19 ∨ j = 20 ∨ j = 21 ∨ j = 22 ∨ j = 23 ∨ j = 24 ∨ j = 25 ∨ j = 26 ∨ j = 27 ∨ j = 28 ∨ j = 29 ∨ j = 30 ∨ j = 31 ∨ j = 32 ∨ j = 33 by omega) with rfl | rfl | rfl | rfl | rfl | rfl | rfl | rfl | rfl | rfl | rfl | rfl | rfl | rfl | rfl | rfl | rfl | rfl | rfl | rfl | rfl | rfl | rfl | rfl | rfl | rfl | rfl | rfl | rfl | rfl | rfl | rfl | rfl | rfl <;> rfl
