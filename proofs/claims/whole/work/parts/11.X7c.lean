/-! by program: the block rules of class 7, part 2 -/
theorem bX7_read_0 {v1 : Int} {v2 : Int} {σ : ASt} {Q : Int → ASt → Prop}  (h : EvR 0 K_X7_baseAt [.ref 0, .int (iI v2)] σ (fun s1 => EvR 4 K_X7_reelAt [.ref 0, .int (iI v1)] s1 (fun s4 => Q (-2) s4) (fun r5 s4 => Q (-2) s4)) (fun r2 s1 => EvR 4 K_X7_reelAt [.ref 0, .int (iI v1)] s1 (fun s7 => Q (-2) s7) (fun r8 s7 => EvI K_X6_fault [.ref 9, .int (iI (gI s7 r2 4))] s7 (fun x11 s10 => ((x11 ≠ (-1) → i32 (((-100) - x11)) ∧ Q ((-100) - x11) (sI s10 9 1 0)) ∧ (x11 = (-1) → EvI K_X6_numbersInto [.ref 9, .ref 6] s10 (fun x16 s15 => EvI K_X7_fillReel [.ref 0, .int (iI v1), .ref r2, .ref 6] s15 (fun x19 s18 => Q x16 (sI s18 9 1 0))))))))) : Wx K_X7_read (QI Q) 0 [(0, .ref 0), (1, .int (iI v1)), (2, .int (iI v2))] [] σ := by
  intro p l e s m args below meth c D cA ad X0 hr hlk
  have X : Cx p s m args c (adA ad) D cA ad RX7 cX7_read 6 := X0
  refine g_aload_n X 0 dX7_read_0 rfl ?_
  refine g_iload_n X 2 dX7_read_1 rfl ?_
  refine g_cVR X (K := K_X7_baseAt) [.int (iI v2)] [] dX7_read_2 lv_X7_75 rm_X7_read_X7_baseAt ⟨by decide, by decide⟩ adA_id rfl rfl rfl (Nat.le_of_ble_eq_true rfl) rfl h (fun s1 h => ?_) (fun r2 s1 q3 h => ?_)
  · skip
    refine g_astore_nN X (lv' := [(3, .null), (0, .ref 0), (1, .int (iI v1)), (2, .int (iI v2))]) dX7_read_5 (by decide) rfl ?_
    refine g_aload_n X 1 dX7_read_6 rfl ?_
    refine g_iload_n X 2 dX7_read_7 rfl ?_
    refine g_cVR X (K := K_X7_reelAt) [.int (iI v1)] [] dX7_read_8 lv_X7_87 rm_X7_read_X7_reelAt ⟨by decide, by decide⟩ adA_id rfl rfl rfl (Nat.le_of_ble_eq_true rfl) rfl h (fun s4 h => ?_) (fun r5 s4 q6 h => ?_)
    · skip
      refine g_ifnullN X (tgt := 18) dX7_read_11 (by decide) ?_
      refine g_bipush X dX7_read_18 (by decide +kernel) ?_
      exact g_iret X hr hlk dX7_read_20 rfl ⟨_, rfl, (by omega), h⟩
    · skip
      refine g_ifnull X dX7_read_11 ?_
      refine g_aload_nN X 0 dX7_read_14 rfl ?_
      refine g_ifnonnullN X dX7_read_15 ?_
      refine g_bipush X dX7_read_18 (by decide +kernel) ?_
      exact g_iret X hr hlk dX7_read_20 rfl ⟨_, rfl, (by omega), h⟩
  · skip
    refine g_astore_n X (lv' := [(3, .ref r2), (0, .ref 0), (1, .int (iI v1)), (2, .int (iI v2))]) dX7_read_5 (by decide) rfl ?_
    refine g_aload_n X 1 dX7_read_6 rfl ?_
    refine g_iload_n X 2 dX7_read_7 rfl ?_
    refine g_cVR X (K := K_X7_reelAt) [.int (iI v1)] [] dX7_read_8 lv_X7_87 rm_X7_read_X7_reelAt ⟨by decide, by decide⟩ adA_id rfl rfl rfl (Nat.le_of_ble_eq_true rfl) rfl h (fun s7 h => ?_) (fun r8 s7 q9 h => ?_)
    · skip
      refine g_ifnullN X (tgt := 18) dX7_read_11 (by decide) ?_
      refine g_bipush X dX7_read_18 (by decide +kernel) ?_
      exact g_iret X hr hlk dX7_read_20 rfl ⟨_, rfl, (by omega), h⟩
    · skip
      refine g_ifnull X dX7_read_11 ?_
      refine g_aload_n X 0 dX7_read_14 rfl ?_
      refine g_ifnonnull X (tgt := 21) dX7_read_15 (by decide) ?_
      refine g_aload_n X 1 dX7_read_21 rfl ?_
      refine g_getF X (f := 9) dX7_read_22 lf_X7_32 rfl rfl rfl ?_
      refine g_aload_n X 0 dX7_read_25 rfl ?_
      refine g_getI X (z := 4) dX7_read_26 lf_X7_98 q3 rfl rfl ?_
      refine g_cVI X (K := K_X6_fault) [.int (iI (gI s7 r2 4))] [] dX7_read_29 lv_X7_239 rm_X7_read_X6_fault ⟨by decide, by decide⟩ adA_id rfl rfl rfl (Nat.le_of_ble_eq_true rfl) rfl h (fun x11 s10 q12 h => ?_)
      refine g_istore X (lv' := [(4, .int (iI x11)), (3, .ref r2), (0, .ref 0), (1, .int (iI v1)), (2, .int (iI v2))]) dX7_read_32 (by decide) rfl ?_
      refine g_bipush X dX7_read_34 (by decide +kernel) ?_
      refine g_iload X 0 dX7_read_36 rfl ?_
      refine g_isub X dX7_read_38 ?_
      refine g_istore X (lv' := [(5, .int (iI ((-100) - x11))), (4, .int (iI x11)), (3, .ref r2), (0, .ref 0), (1, .int (iI v1)), (2, .int (iI v2))]) dX7_read_39 (by decide) rfl ?_
      refine g_iload X 1 dX7_read_41 rfl ?_
      refine g_iconst X dX7_read_43 ?_
      refine g_icmp_ne X (tgt := 71) dX7_read_44 (by decide) q12 (by omega) (fun c13 => ?_) (fun c13 => ?_)
      · have h := h.1 c13
        refine g_aload_n X 3 dX7_read_71 rfl ?_
        refine g_getF X (f := 9) dX7_read_72 lf_X7_32 rfl rfl rfl ?_
        refine g_iconst X dX7_read_75 ?_
        refine g_putI X (j := 1) (z := 1) dX7_read_76 lp_X7_238 rfl rfl rfl ?_
        refine g_iload X 0 dX7_read_79 rfl ?_
        obtain ⟨q14, h⟩ := h
        exact g_iret X hr hlk dX7_read_81 rfl ⟨_, rfl, q14, h⟩
      · have h := h.2 c13
        refine g_aload_n X 3 dX7_read_47 rfl ?_
        refine g_getF X (f := 9) dX7_read_48 lf_X7_32 rfl rfl rfl ?_
        refine g_aload_n X 3 dX7_read_51 rfl ?_
        refine g_getF X (f := 6) dX7_read_52 lf_X7_60 rfl rfl rfl ?_
        refine g_cVI X (K := K_X6_numbersInto) [.ref 6] [] dX7_read_55 lv_X7_243 rm_X7_read_X6_numbersInto ⟨by decide, by decide⟩ adA_id rfl rfl rfl (Nat.le_of_ble_eq_true rfl) rfl h (fun x16 s15 q17 h => ?_)
        refine g_istore X (lv' := [(5, .int (iI x16)), (4, .int (iI x11)), (3, .ref r2), (0, .ref 0), (1, .int (iI v1)), (2, .int (iI v2))]) dX7_read_58 (by decide) rfl ?_
        refine g_aload_n X 3 dX7_read_60 rfl ?_
        refine g_iload_n X 4 dX7_read_61 rfl ?_
        refine g_aload_n X 2 dX7_read_62 rfl ?_
        refine g_aload_n X 3 dX7_read_63 rfl ?_
        refine g_getF X (f := 6) dX7_read_64 lf_X7_60 rfl rfl rfl ?_
        refine g_cVI X (K := K_X7_fillReel) [.int (iI v1), .ref r2, .ref 6] [] dX7_read_67 lv_X7_137 rm_X7_read_X7_fillReel ⟨by decide, by decide⟩ adA_id rfl rfl rfl (Nat.le_of_ble_eq_true rfl) rfl h (fun x19 s18 q20 h => ?_)
        refine g_pop X dX7_read_70 rfl ?_
        refine g_aload_n X 3 dX7_read_71 rfl ?_
        refine g_getF X (f := 9) dX7_read_72 lf_X7_32 rfl rfl rfl ?_
        refine g_iconst X dX7_read_75 ?_
        refine g_putI X (j := 1) (z := 1) dX7_read_76 lp_X7_238 rfl rfl rfl ?_
        refine g_iload X 0 dX7_read_79 rfl ?_
        exact g_iret X hr hlk dX7_read_81 rfl ⟨_, rfl, q17, h⟩
theorem eX7_read {v1 : Int} {v2 : Int} {σ : ASt} {Q : Int → ASt → Prop}  (h : EvR 0 K_X7_baseAt [.ref 0, .int (iI v2)] σ (fun s1 => EvR 4 K_X7_reelAt [.ref 0, .int (iI v1)] s1 (fun s4 => Q (-2) s4) (fun r5 s4 => Q (-2) s4)) (fun r2 s1 => EvR 4 K_X7_reelAt [.ref 0, .int (iI v1)] s1 (fun s7 => Q (-2) s7) (fun r8 s7 => EvI K_X6_fault [.ref 9, .int (iI (gI s7 r2 4))] s7 (fun x11 s10 => ((x11 ≠ (-1) → i32 (((-100) - x11)) ∧ Q ((-100) - x11) (sI s10 9 1 0)) ∧ (x11 = (-1) → EvI K_X6_numbersInto [.ref 9, .ref 6] s10 (fun x16 s15 => EvI K_X7_fillReel [.ref 0, .int (iI v1), .ref r2, .ref 6] s15 (fun x19 s18 => Q x16 (sI s18 9 1 0))))))))) : EvI K_X7_read [.ref 0, .int (iI v1), .int (iI v2)] σ Q := Ev.of rfl (Nat.le_of_ble_eq_true rfl) rfl (bX7_read_0  h)
theorem bX7_times_0 {v0 : Int} {v2 : Int} {v4 : Int} {σ : ASt} {Q : Int → ASt → Prop} (h64v0 : i64 v0) (h64v2 : i64 v2) (h64v4 : i64 v4) (h : ((v0 = 0 → Q 0 σ) ∧ (v0 ≠ 0 → ((v2 ≠ 0 → v2 ≠ 0 ∧ i64 ((Int.tdiv v4 v2)) ∧ ((v0 ≤ (Int.tdiv v4 v2) → i64 ((v0 * v2)) ∧ Q (v0 * v2) σ) ∧ ((Int.tdiv v4 v2) < v0 → Q (-9223372036854775808) σ))) ∧ (v2 = 0 → Q 0 σ))))) : Wx K_X7_times (QL Q) 0 [(0, .long (lI v0)), (2, .long (lI v2)), (4, .long (lI v4))] [] σ := by
  intro p l e s m args below meth c D cA ad X0 hr hlk
  have X : Cx p s m args c (adA ad) D cA ad RX7 cX7_times 6 := X0
  refine g_lload_n X 0 dX7_times_0 rfl ?_
  refine g_lconst X (z := 0) dX7_times_1 (by decide +kernel) ?_
  refine g_lc_eq X (tgt := 12) dX7_times_2 dX7_times_3 (by decide) h64v0 (by omega) (fun c1 => ?_) (fun c1 => ?_)
  · have h := h.1 c1
    refine g_lconst X (z := 0) dX7_times_12 (by decide +kernel) ?_
    exact g_lret X hr hlk dX7_times_13 ⟨_, rfl, (by omega), h⟩
  · have h := h.2 c1
    refine g_lload_n X 1 dX7_times_6 rfl ?_
    refine g_lconst X (z := 0) dX7_times_7 (by decide +kernel) ?_
    refine g_lc_ne X (tgt := 14) dX7_times_8 dX7_times_9 (by decide) h64v2 (by omega) (fun c2 => ?_) (fun c2 => ?_)
    · have h := h.1 c2
      refine g_lload_n X 0 dX7_times_14 rfl ?_
      refine g_lload X 2 dX7_times_15 rfl ?_
      refine g_lload_n X 1 dX7_times_17 rfl ?_
      obtain ⟨q3, h⟩ := h
      refine g_ldiv X dX7_times_18 h64v4 h64v2 q3 ?_
      obtain ⟨q4, h⟩ := h
      refine g_lc_le X (tgt := 29) dX7_times_19 dX7_times_20 (by decide) h64v0 q4 (fun c5 => ?_) (fun c5 => ?_)
      · have h := h.1 c5
        refine g_lload_n X 0 dX7_times_29 rfl ?_
        refine g_lload_n X 1 dX7_times_30 rfl ?_
        refine g_lmul X dX7_times_31 ?_
        obtain ⟨q6, h⟩ := h
        exact g_lret X hr hlk dX7_times_32 ⟨_, rfl, q6, h⟩
      · have h := h.2 c5
        refine g_ldc2 X (z := (-9223372036854775808)) dX7_times_23 lc_X7_117 (by decide +kernel) ?_
        refine g_goto X (tgt := 32) dX7_times_26 (by decide) ?_
        exact g_lret X hr hlk dX7_times_32 ⟨_, rfl, (by omega), h⟩
    · have h := h.2 c2
      refine g_lconst X (z := 0) dX7_times_12 (by decide +kernel) ?_
      exact g_lret X hr hlk dX7_times_13 ⟨_, rfl, (by omega), h⟩
theorem eX7_times {v0 : Int} {v2 : Int} {v4 : Int} {σ : ASt} {Q : Int → ASt → Prop} (h64v0 : i64 v0) (h64v2 : i64 v2) (h64v4 : i64 v4) (h : ((v0 = 0 → Q 0 σ) ∧ (v0 ≠ 0 → ((v2 ≠ 0 → v2 ≠ 0 ∧ i64 ((Int.tdiv v4 v2)) ∧ ((v0 ≤ (Int.tdiv v4 v2) → i64 ((v0 * v2)) ∧ Q (v0 * v2) σ) ∧ ((Int.tdiv v4 v2) < v0 → Q (-9223372036854775808) σ))) ∧ (v2 = 0 → Q 0 σ))))) : EvL K_X7_times [.long (lI v0), .long (lI v2), .long (lI v4)] σ Q := Ev.of rfl (Nat.le_of_ble_eq_true rfl) rfl (bX7_times_0 h64v0 h64v2 h64v4 h)
theorem bX7_reckon_0 {v0 : Int} {v2 : Int} {v4 : Int} {v5 : Int} {σ : ASt} {Q : Int → ASt → Prop} (h32v4 : i32 v4) (h64v0 : i64 v0) (h64v2 : i64 v2) (h : ((v4 ≠ 1 → ((v4 ≠ 2 → ((v2 ≠ 0 → ((v4 ≠ 3 → v2 ≠ 0 ∧ i64 ((Int.tmod v0 v2)) ∧ Q (Int.tmod v0 v2) σ) ∧ (v4 = 3 → v2 ≠ 0 ∧ i64 ((Int.tdiv v0 v2)) ∧ Q (Int.tdiv v0 v2) σ))) ∧ (v2 = 0 → Q (-9223372036854775808) σ))) ∧ (v4 = 2 → EvL K_X7_times [.long (lI v0), .long (lI v2), .long (lI v5)] σ (fun x10 s9 => Q x10 s9)))) ∧ (v4 = 1 → i64 ((v0 - v2)) ∧ Q (v0 - v2) σ))) : Wx K_X7_reckon (QL Q) 0 [(0, .long (lI v0)), (2, .long (lI v2)), (4, .int (iI v4)), (5, .long (lI v5))] [] σ := by
  intro p l e s m args below meth c D cA ad X0 hr hlk
  have X : Cx p s m args c (adA ad) D cA ad RX7 cX7_reckon 7 := X0
  refine g_iload X 2 dX7_reckon_0 rfl ?_
  refine g_iconst X dX7_reckon_2 ?_
  refine g_icmp_ne X (tgt := 10) dX7_reckon_3 (by decide) h32v4 (by omega) (fun c1 => ?_) (fun c1 => ?_)
  · have h := h.1 c1
    refine g_iload X 2 dX7_reckon_10 rfl ?_
    refine g_iconst X dX7_reckon_12 ?_
    refine g_icmp_ne X (tgt := 24) dX7_reckon_13 (by decide) h32v4 (by omega) (fun c2 => ?_) (fun c2 => ?_)
    · have h := h.1 c2
      refine g_lload_n X 1 dX7_reckon_24 rfl ?_
      refine g_lconst X (z := 0) dX7_reckon_25 (by decide +kernel) ?_
      refine g_lc_ne X (tgt := 34) dX7_reckon_26 dX7_reckon_27 (by decide) h64v2 (by omega) (fun c3 => ?_) (fun c3 => ?_)
      · have h := h.1 c3
        refine g_iload X 2 dX7_reckon_34 rfl ?_
        refine g_iconst X dX7_reckon_36 ?_
        refine g_icmp_ne X (tgt := 46) dX7_reckon_37 (by decide) h32v4 (by omega) (fun c4 => ?_) (fun c4 => ?_)
        · have h := h.1 c4
          refine g_lload_n X 0 dX7_reckon_46 rfl ?_
          refine g_lload_n X 1 dX7_reckon_47 rfl ?_
          obtain ⟨q5, h⟩ := h
          refine g_lrem X dX7_reckon_48 h64v0 h64v2 q5 ?_
          obtain ⟨q6, h⟩ := h
          exact g_lret X hr hlk dX7_reckon_49 ⟨_, rfl, q6, h⟩
        · have h := h.2 c4
          refine g_lload_n X 0 dX7_reckon_40 rfl ?_
          refine g_lload_n X 1 dX7_reckon_41 rfl ?_
          obtain ⟨q7, h⟩ := h
          refine g_ldiv X dX7_reckon_42 h64v0 h64v2 q7 ?_
          refine g_goto X (tgt := 49) dX7_reckon_43 (by decide) ?_
          obtain ⟨q8, h⟩ := h
          exact g_lret X hr hlk dX7_reckon_49 ⟨_, rfl, q8, h⟩
      · have h := h.2 c3
        refine g_ldc2 X (z := (-9223372036854775808)) dX7_reckon_30 lc_X7_117 (by decide +kernel) ?_
        exact g_lret X hr hlk dX7_reckon_33 ⟨_, rfl, (by omega), h⟩
    · have h := h.2 c2
      refine g_lload_n X 0 dX7_reckon_16 rfl ?_
      refine g_lload_n X 1 dX7_reckon_17 rfl ?_
      refine g_lload X 3 dX7_reckon_18 rfl ?_
      refine g_cSL X (K := K_X7_times) [.long (lI v0), .long (lI v2), .long (lI v5)] [] dX7_reckon_20 ls_X7_305 rm_X7_reckon_X7_times ⟨by decide, by decide⟩ adA_id rfl (Nat.le_of_ble_eq_true rfl) rfl h (fun x10 s9 q11 h => ?_)
      exact g_lret X hr hlk dX7_reckon_23 ⟨_, rfl, q11, h⟩
  · have h := h.2 c1
    refine g_lload_n X 0 dX7_reckon_6 rfl ?_
    refine g_lload_n X 1 dX7_reckon_7 rfl ?_
    refine g_lsub X dX7_reckon_8 ?_
    obtain ⟨q12, h⟩ := h
    exact g_lret X hr hlk dX7_reckon_9 ⟨_, rfl, q12, h⟩
theorem eX7_reckon {v0 : Int} {v2 : Int} {v4 : Int} {v5 : Int} {σ : ASt} {Q : Int → ASt → Prop} (h32v4 : i32 v4) (h64v0 : i64 v0) (h64v2 : i64 v2) (h : ((v4 ≠ 1 → ((v4 ≠ 2 → ((v2 ≠ 0 → ((v4 ≠ 3 → v2 ≠ 0 ∧ i64 ((Int.tmod v0 v2)) ∧ Q (Int.tmod v0 v2) σ) ∧ (v4 = 3 → v2 ≠ 0 ∧ i64 ((Int.tdiv v0 v2)) ∧ Q (Int.tdiv v0 v2) σ))) ∧ (v2 = 0 → Q (-9223372036854775808) σ))) ∧ (v4 = 2 → EvL K_X7_times [.long (lI v0), .long (lI v2), .long (lI v5)] σ (fun x10 s9 => Q x10 s9)))) ∧ (v4 = 1 → i64 ((v0 - v2)) ∧ Q (v0 - v2) σ))) : EvL K_X7_reckon [.long (lI v0), .long (lI v2), .int (iI v4), .long (lI v5)] σ Q := Ev.of rfl (Nat.le_of_ble_eq_true rfl) rfl (bX7_reckon_0 h32v4 h64v0 h64v2 h)
theorem bX7_right_0 {v1 : Int} {σ : ASt} {Q : Int → ASt → Prop}  (h : EvR 4 K_X7_reelAt [.ref 0, .int (iI v1)] σ (fun s1 => Q (-2) s1) (fun r2 s1 => ((gP s1 r2 0 = none → Q (-11) s1) ∧ (∀ r4 : Nat, gP s1 r2 0 = some r4 → shp r4 = (0, 0, 0) ∧ EvL K_X0_valueOf [.ref r4, .ref (r2 + 12)] s1 (fun x8 s7 => i64 ((gL s7 r4 5)) ∧ ((x8 ≤ (gL s7 r4 5) → EvI K_X7_turnTo [.ref 0, .int (iI v1), .ref r4, .ref (r2 + 12), .long (lI x8)] s7 (fun x13 s12 => Q x13 s12)) ∧ ((gL s7 r4 5) < x8 → Q (-3) s7))))))) : Wx K_X7_right (QI Q) 0 [(0, .ref 0), (1, .int (iI v1))] [] σ := by
  intro p l e s m args below meth c D cA ad X0 hr hlk
  have X : Cx p s m args c (adA ad) D cA ad RX7 cX7_right 6 := X0
  refine g_aload_n X 0 dX7_right_0 rfl ?_
  refine g_iload_n X 1 dX7_right_1 rfl ?_
  refine g_cVR X (K := K_X7_reelAt) [.int (iI v1)] [] dX7_right_2 lv_X7_87 rm_X7_right_X7_reelAt ⟨by decide, by decide⟩ adA_id rfl rfl rfl (Nat.le_of_ble_eq_true rfl) rfl h (fun s1 h => ?_) (fun r2 s1 q3 h => ?_)
  · skip
    refine g_astore_nN X (lv' := [(2, .null), (0, .ref 0), (1, .int (iI v1))]) dX7_right_5 (by decide) rfl ?_
    refine g_aload_nN X 0 dX7_right_6 rfl ?_
    refine g_ifnonnullN X dX7_right_7 ?_
    refine g_bipush X dX7_right_10 (by decide +kernel) ?_
    exact g_iret X hr hlk dX7_right_12 rfl ⟨_, rfl, (by omega), h⟩
  · skip
    refine g_astore_n X (lv' := [(2, .ref r2), (0, .ref 0), (1, .int (iI v1))]) dX7_right_5 (by decide) rfl ?_
    refine g_aload_n X 0 dX7_right_6 rfl ?_
    refine g_ifnonnull X (tgt := 13) dX7_right_7 (by decide) ?_
    refine g_aload_n X 0 dX7_right_13 rfl ?_
    refine g_getP X dX7_right_14 lf_X7_91 q3 rfl (fun c5 => ?_) (fun r4 c5 => ?_)
    · have h := h.1 c5
      refine g_astore_nN X (lv' := [(3, .null), (2, .ref r2), (0, .ref 0), (1, .int (iI v1))]) dX7_right_17 (by decide) rfl ?_
      refine g_aload_nN X 0 dX7_right_18 rfl ?_
      refine g_ifnonnullN X dX7_right_19 ?_
      refine g_bipush X dX7_right_22 (by decide +kernel) ?_
      exact g_iret X hr hlk dX7_right_24 rfl ⟨_, rfl, (by omega), h⟩
    · obtain ⟨q6, h⟩ := h.2 r4 c5
      refine g_astore_n X (lv' := [(3, .ref r4), (2, .ref r2), (0, .ref 0), (1, .int (iI v1))]) dX7_right_17 (by decide) rfl ?_
      refine g_aload_n X 0 dX7_right_18 rfl ?_
      refine g_ifnonnull X (tgt := 25) dX7_right_19 (by decide) ?_
      refine g_aload_n X 0 dX7_right_25 rfl ?_
      refine g_aload_n X 1 dX7_right_26 rfl ?_
      refine g_getF X (f := (r2 + 12)) dX7_right_27 lf_X7_144 q3 rfl (fn_4_1 q3) ?_
      refine g_cVL X (K := K_X0_valueOf) [.ref (r2 + 12)] [] dX7_right_30 lv_X7_158 rm_X7_right_X0_valueOf ⟨by decide, by decide⟩ adA_id q6 rfl rfl (Nat.le_of_ble_eq_true rfl) rfl h (fun x8 s7 q9 h => ?_)
      refine g_lstore X (lv' := [(4, .long (lI x8)), (3, .ref r4), (2, .ref r2), (0, .ref 0), (1, .int (iI v1))]) dX7_right_33 (by decide) rfl ?_
      refine g_lload X 0 dX7_right_35 rfl ?_
      refine g_aload_n X 1 dX7_right_37 rfl ?_
      refine g_getL X (z := 5) dX7_right_38 lf_X7_126 q6 rfl rfl ?_
      obtain ⟨q10, h⟩ := h
      refine g_lc_le X (tgt := 50) dX7_right_41 dX7_right_42 (by decide) q9 q10 (fun c11 => ?_) (fun c11 => ?_)
      · have h := h.1 c11
        refine g_aload_n X 3 dX7_right_50 rfl ?_
        refine g_iload_n X 4 dX7_right_51 rfl ?_
        refine g_aload_n X 1 dX7_right_52 rfl ?_
        refine g_aload_n X 2 dX7_right_53 rfl ?_
        refine g_getF X (f := (r2 + 12)) dX7_right_54 lf_X7_144 q3 rfl (fn_4_1 q3) ?_
        refine g_lload X 0 dX7_right_57 rfl ?_
        refine g_cVI X (K := K_X7_turnTo) [.int (iI v1), .ref r4, .ref (r2 + 12), .long (lI x8)] [] dX7_right_59 lv_X7_177 rm_X7_right_X7_turnTo ⟨by decide, by decide⟩ adA_id rfl rfl rfl (Nat.le_of_ble_eq_true rfl) rfl h (fun x13 s12 q14 h => ?_)
        exact g_iret X hr hlk dX7_right_62 rfl ⟨_, rfl, q14, h⟩
      · have h := h.2 c11
        refine g_bipush X dX7_right_45 (by decide +kernel) ?_
        refine g_goto X (tgt := 62) dX7_right_47 (by decide) ?_
        exact g_iret X hr hlk dX7_right_62 rfl ⟨_, rfl, (by omega), h⟩
theorem eX7_right {v1 : Int} {σ : ASt} {Q : Int → ASt → Prop}  (h : EvR 4 K_X7_reelAt [.ref 0, .int (iI v1)] σ (fun s1 => Q (-2) s1) (fun r2 s1 => ((gP s1 r2 0 = none → Q (-11) s1) ∧ (∀ r4 : Nat, gP s1 r2 0 = some r4 → shp r4 = (0, 0, 0) ∧ EvL K_X0_valueOf [.ref r4, .ref (r2 + 12)] s1 (fun x8 s7 => i64 ((gL s7 r4 5)) ∧ ((x8 ≤ (gL s7 r4 5) → EvI K_X7_turnTo [.ref 0, .int (iI v1), .ref r4, .ref (r2 + 12), .long (lI x8)] s7 (fun x13 s12 => Q x13 s12)) ∧ ((gL s7 r4 5) < x8 → Q (-3) s7))))))) : EvI K_X7_right [.ref 0, .int (iI v1)] σ Q := Ev.of rfl (Nat.le_of_ble_eq_true rfl) rfl (bX7_right_0  h)
theorem bX7_row_0 {v1 : Int} {v2 : Int} {σ : ASt} {Q : Int → ASt → Prop} (h32v2 : i32 v2) (h : EvR 2 K_X7_rowAt [.ref 0, .int (iI v1)] σ (fun s1 => Q (-2) s1) (fun r2 s1 => ((v2 ≤ 60 → (((-1) ≤ v2 → EvV K_X2_become [.ref r2, .int (iI v2)] s1 (fun s6 => Q 1 s6)) ∧ (v2 < (-1) → Q (-14) s1))) ∧ (60 < v2 → Q (-2) s1)))) : Wx K_X7_row (QI Q) 0 [(0, .ref 0), (1, .int (iI v1)), (2, .int (iI v2))] [] σ := by
  intro p l e s m args below meth c D cA ad X0 hr hlk
  have X : Cx p s m args c (adA ad) D cA ad RX7 cX7_row 4 := X0
  refine g_aload_n X 0 dX7_row_0 rfl ?_
  refine g_iload_n X 1 dX7_row_1 rfl ?_
  refine g_cVR X (K := K_X7_rowAt) [.int (iI v1)] [] dX7_row_2 lv_X7_256 rm_X7_row_X7_rowAt ⟨by decide, by decide⟩ adA_id rfl rfl rfl (Nat.le_of_ble_eq_true rfl) rfl h (fun s1 h => ?_) (fun r2 s1 q3 h => ?_)
  · skip
    refine g_astore_nN X (lv' := [(3, .null), (0, .ref 0), (1, .int (iI v1)), (2, .int (iI v2))]) dX7_row_5 (by decide) rfl ?_
    refine g_aload_nN X 0 dX7_row_6 rfl ?_
    refine g_ifnullN X (tgt := 16) dX7_row_7 (by decide) ?_
    refine g_bipush X dX7_row_16 (by decide +kernel) ?_
    exact g_iret X hr hlk dX7_row_18 rfl ⟨_, rfl, (by omega), h⟩
  · skip
    refine g_astore_n X (lv' := [(3, .ref r2), (0, .ref 0), (1, .int (iI v1)), (2, .int (iI v2))]) dX7_row_5 (by decide) rfl ?_
    refine g_aload_n X 0 dX7_row_6 rfl ?_
    refine g_ifnull X dX7_row_7 ?_
    refine g_iload_n X 3 dX7_row_10 rfl ?_
    refine g_bipush X dX7_row_11 (by decide +kernel) ?_
    refine g_icmp_le X (tgt := 19) dX7_row_13 (by decide) h32v2 (by omega) (fun c4 => ?_) (fun c4 => ?_)
    · have h := h.1 c4
      refine g_iload_n X 3 dX7_row_19 rfl ?_
      refine g_iconst X dX7_row_20 ?_
      refine g_icmp_ge X (tgt := 27) dX7_row_21 (by decide) h32v2 (by omega) (fun c5 => ?_) (fun c5 => ?_)
      · have h := h.1 c5
        refine g_aload_n X 0 dX7_row_27 rfl ?_
        refine g_iload_n X 3 dX7_row_28 rfl ?_
        refine g_cVV X (K := K_X2_become) [.int (iI v2)] [] dX7_row_29 lv_X7_260 rm_X7_row_X2_become ⟨by decide, by decide⟩ adA_id q3 rfl rfl (Nat.le_of_ble_eq_true rfl) rfl h (fun s6 h => ?_)
        refine g_iconst X dX7_row_32 ?_
        exact g_iret X hr hlk dX7_row_33 rfl ⟨_, rfl, (by omega), h⟩
      · have h := h.2 c5
        refine g_bipush X dX7_row_24 (by decide +kernel) ?_
        exact g_iret X hr hlk dX7_row_26 rfl ⟨_, rfl, (by omega), h⟩
    · have h := h.2 c4
      refine g_bipush X dX7_row_16 (by decide +kernel) ?_
      exact g_iret X hr hlk dX7_row_18 rfl ⟨_, rfl, (by omega), h⟩
theorem eX7_row {v1 : Int} {v2 : Int} {σ : ASt} {Q : Int → ASt → Prop} (h32v2 : i32 v2) (h : EvR 2 K_X7_rowAt [.ref 0, .int (iI v1)] σ (fun s1 => Q (-2) s1) (fun r2 s1 => ((v2 ≤ 60 → (((-1) ≤ v2 → EvV K_X2_become [.ref r2, .int (iI v2)] s1 (fun s6 => Q 1 s6)) ∧ (v2 < (-1) → Q (-14) s1))) ∧ (60 < v2 → Q (-2) s1)))) : EvI K_X7_row [.ref 0, .int (iI v1), .int (iI v2)] σ Q := Ev.of rfl (Nat.le_of_ble_eq_true rfl) rfl (bX7_row_0 h32v2 h)
theorem bX7_settle_0 {v1 : Int} {σ : ASt} {Q : Int → ASt → Prop}  (h : EvR 4 K_X7_reelAt [.ref 0, .int (iI v1)] σ (fun s1 => Q (-2) s1) (fun r2 s1 => ((gP s1 r2 0 = none → Q (-11) s1) ∧ (∀ r4 : Nat, gP s1 r2 0 = some r4 → shp r4 = (0, 0, 0) ∧ EvV K_X1_keep [.ref 11, .int (iI v1), .ref (r2 + 12)] s1 (fun s7 => EvI K_X0_settleAll [.ref r4, .ref (r2 + 12)] s7 (fun x9 s8 => Q x9 s8)))))) : Wx K_X7_settle (QI Q) 0 [(0, .ref 0), (1, .int (iI v1))] [] σ := by
  intro p l e s m args below meth c D cA ad X0 hr hlk
  have X : Cx p s m args c (adA ad) D cA ad RX7 cX7_settle 4 := X0
  refine g_aload_n X 0 dX7_settle_0 rfl ?_
  refine g_iload_n X 1 dX7_settle_1 rfl ?_
  refine g_cVR X (K := K_X7_reelAt) [.int (iI v1)] [] dX7_settle_2 lv_X7_87 rm_X7_settle_X7_reelAt ⟨by decide, by decide⟩ adA_id rfl rfl rfl (Nat.le_of_ble_eq_true rfl) rfl h (fun s1 h => ?_) (fun r2 s1 q3 h => ?_)
  · skip
    refine g_astore_nN X (lv' := [(2, .null), (0, .ref 0), (1, .int (iI v1))]) dX7_settle_5 (by decide) rfl ?_
    refine g_aload_nN X 0 dX7_settle_6 rfl ?_
    refine g_ifnonnullN X dX7_settle_7 ?_
    refine g_bipush X dX7_settle_10 (by decide +kernel) ?_
    exact g_iret X hr hlk dX7_settle_12 rfl ⟨_, rfl, (by omega), h⟩
  · skip
    refine g_astore_n X (lv' := [(2, .ref r2), (0, .ref 0), (1, .int (iI v1))]) dX7_settle_5 (by decide) rfl ?_
    refine g_aload_n X 0 dX7_settle_6 rfl ?_
    refine g_ifnonnull X (tgt := 13) dX7_settle_7 (by decide) ?_
    refine g_aload_n X 0 dX7_settle_13 rfl ?_
    refine g_getP X dX7_settle_14 lf_X7_91 q3 rfl (fun c5 => ?_) (fun r4 c5 => ?_)
    · have h := h.1 c5
      refine g_astore_nN X (lv' := [(3, .null), (2, .ref r2), (0, .ref 0), (1, .int (iI v1))]) dX7_settle_17 (by decide) rfl ?_
      refine g_aload_nN X 0 dX7_settle_18 rfl ?_
      refine g_ifnonnullN X dX7_settle_19 ?_
      refine g_bipush X dX7_settle_22 (by decide +kernel) ?_
      exact g_iret X hr hlk dX7_settle_24 rfl ⟨_, rfl, (by omega), h⟩
    · obtain ⟨q6, h⟩ := h.2 r4 c5
      refine g_astore_n X (lv' := [(3, .ref r4), (2, .ref r2), (0, .ref 0), (1, .int (iI v1))]) dX7_settle_17 (by decide) rfl ?_
      refine g_aload_n X 0 dX7_settle_18 rfl ?_
      refine g_ifnonnull X (tgt := 25) dX7_settle_19 (by decide) ?_
      refine g_aload_n X 2 dX7_settle_25 rfl ?_
      refine g_getF X (f := 11) dX7_settle_26 lf_X7_39 rfl rfl rfl ?_
      refine g_iload_n X 3 dX7_settle_29 rfl ?_
      refine g_aload_n X 1 dX7_settle_30 rfl ?_
      refine g_getF X (f := (r2 + 12)) dX7_settle_31 lf_X7_144 q3 rfl (fn_4_1 q3) ?_
      refine g_cVV X (K := K_X1_keep) [.int (iI v1), .ref (r2 + 12)] [] dX7_settle_34 lv_X7_162 rm_X7_settle_X1_keep ⟨by decide, by decide⟩ adA_id rfl rfl rfl (Nat.le_of_ble_eq_true rfl) rfl h (fun s7 h => ?_)
      refine g_aload_n X 0 dX7_settle_37 rfl ?_
      refine g_aload_n X 1 dX7_settle_38 rfl ?_
      refine g_getF X (f := (r2 + 12)) dX7_settle_39 lf_X7_144 q3 rfl (fn_4_1 q3) ?_
      refine g_cVI X (K := K_X0_settleAll) [.ref (r2 + 12)] [] dX7_settle_42 lv_X7_174 rm_X7_settle_X0_settleAll ⟨by decide, by decide⟩ adA_id q6 rfl rfl (Nat.le_of_ble_eq_true rfl) rfl h (fun x9 s8 q10 h => ?_)
      exact g_iret X hr hlk dX7_settle_45 rfl ⟨_, rfl, q10, h⟩
theorem eX7_settle {v1 : Int} {σ : ASt} {Q : Int → ASt → Prop}  (h : EvR 4 K_X7_reelAt [.ref 0, .int (iI v1)] σ (fun s1 => Q (-2) s1) (fun r2 s1 => ((gP s1 r2 0 = none → Q (-11) s1) ∧ (∀ r4 : Nat, gP s1 r2 0 = some r4 → shp r4 = (0, 0, 0) ∧ EvV K_X1_keep [.ref 11, .int (iI v1), .ref (r2 + 12)] s1 (fun s7 => EvI K_X0_settleAll [.ref r4, .ref (r2 + 12)] s7 (fun x9 s8 => Q x9 s8)))))) : EvI K_X7_settle [.ref 0, .int (iI v1)] σ Q := Ev.of rfl (Nat.le_of_ble_eq_true rfl) rfl (bX7_settle_0  h)
theorem bX7_shift_0 {v1 : Int} {v2 : Int} {σ : ASt} {Q : Int → ASt → Prop}  (h : EvR 4 K_X7_reelAt [.ref 0, .int (iI v1)] σ (fun s1 => Q (-2) s1) (fun r2 s1 => EvZ K_X7_isWithin [.int (iI v2), .int (iI (-9)), .int (iI 9)] s1 (fun s4 => ((gP s4 r2 0 = none → Q (-11) s4) ∧ (∀ r5 : Nat, gP s4 r2 0 = some r5 → shp r5 = (0, 0, 0) ∧ EvV K_X1_keep [.ref 11, .int (iI v1), .ref (r2 + 12)] s4 (fun s8 => EvI K_X7_countNotZero [.ref (r2 + 12)] s8 (fun x10 s9 => EvV K_X0_shiftInto [.ref r5, .ref 6, .ref (r2 + 12), .int (iI v2)] s9 (fun s12 => EvV K_X7_copyDigits [.ref 6, .ref (r2 + 12)] s12 (fun s13 => EvI K_X7_countNotZero [.ref (r2 + 12)] s13 (fun x15 s14 => i32 ((x10 - x15)) ∧ Q (x10 - x15) s14)))))))) (fun s4 => Q (-2) s4))) : Wx K_X7_shift (QI Q) 0 [(0, .ref 0), (1, .int (iI v1)), (2, .int (iI v2))] [] σ := by
  intro p l e s m args below meth c D cA ad X0 hr hlk
  have X : Cx p s m args c (adA ad) D cA ad RX7 cX7_shift 6 := X0
  refine g_aload_n X 0 dX7_shift_0 rfl ?_
  refine g_iload_n X 1 dX7_shift_1 rfl ?_
  refine g_cVR X (K := K_X7_reelAt) [.int (iI v1)] [] dX7_shift_2 lv_X7_87 rm_X7_shift_X7_reelAt ⟨by decide, by decide⟩ adA_id rfl rfl rfl (Nat.le_of_ble_eq_true rfl) rfl h (fun s1 h => ?_) (fun r2 s1 q3 h => ?_)
  · skip
    refine g_astore_nN X (lv' := [(3, .null), (0, .ref 0), (1, .int (iI v1)), (2, .int (iI v2))]) dX7_shift_5 (by decide) rfl ?_
    refine g_aload_nN X 0 dX7_shift_6 rfl ?_
    refine g_ifnullN X (tgt := 21) dX7_shift_7 (by decide) ?_
    refine g_bipush X dX7_shift_21 (by decide +kernel) ?_
    exact g_iret X hr hlk dX7_shift_23 rfl ⟨_, rfl, (by omega), h⟩
  · skip
    refine g_astore_n X (lv' := [(3, .ref r2), (0, .ref 0), (1, .int (iI v1)), (2, .int (iI v2))]) dX7_shift_5 (by decide) rfl ?_
    refine g_aload_n X 0 dX7_shift_6 rfl ?_
    refine g_ifnull X dX7_shift_7 ?_
    refine g_iload_n X 3 dX7_shift_10 rfl ?_
    refine g_bipush X dX7_shift_11 (by decide +kernel) ?_
    refine g_bipush X dX7_shift_13 (by decide +kernel) ?_
    refine g_cSZ X (K := K_X7_isWithin) [.int (iI v2), .int (iI (-9)), .int (iI 9)] [] dX7_shift_15 ls_X7_102 rm_X7_shift_X7_isWithin ⟨by decide, by decide⟩ adA_id rfl (Nat.le_of_ble_eq_true rfl) rfl h (fun s4 h => ?_) (fun s4 h => ?_)
    · skip
      refine g_if_ne X (tgt := 24) dX7_shift_18 (by decide) (by omega) (fun _ => ?_) (fun hc => absurd hc (by decide))
      refine g_aload_n X 0 dX7_shift_24 rfl ?_
      refine g_getP X dX7_shift_25 lf_X7_91 q3 rfl (fun c6 => ?_) (fun r5 c6 => ?_)
      · have h := h.1 c6
        refine g_astoreN X (lv' := [(4, .null), (3, .ref r2), (0, .ref 0), (1, .int (iI v1)), (2, .int (iI v2))]) dX7_shift_28 (by decide) rfl ?_
        refine g_aloadN X 0 dX7_shift_30 rfl ?_
        refine g_ifnonnullN X dX7_shift_32 ?_
        refine g_bipush X dX7_shift_35 (by decide +kernel) ?_
        exact g_iret X hr hlk dX7_shift_37 rfl ⟨_, rfl, (by omega), h⟩
      · obtain ⟨q7, h⟩ := h.2 r5 c6
        refine g_astore X (lv' := [(4, .ref r5), (3, .ref r2), (0, .ref 0), (1, .int (iI v1)), (2, .int (iI v2))]) dX7_shift_28 (by decide) rfl ?_
        refine g_aload X 0 dX7_shift_30 rfl ?_
        refine g_ifnonnull X (tgt := 38) dX7_shift_32 (by decide) ?_
        refine g_aload_n X 2 dX7_shift_38 rfl ?_
        refine g_getF X (f := 11) dX7_shift_39 lf_X7_39 rfl rfl rfl ?_
        refine g_iload_n X 3 dX7_shift_42 rfl ?_
        refine g_aload_n X 1 dX7_shift_43 rfl ?_
        refine g_getF X (f := (r2 + 12)) dX7_shift_44 lf_X7_144 q3 rfl (fn_4_1 q3) ?_
        refine g_cVV X (K := K_X1_keep) [.int (iI v1), .ref (r2 + 12)] [] dX7_shift_47 lv_X7_162 rm_X7_shift_X1_keep ⟨by decide, by decide⟩ adA_id rfl rfl rfl (Nat.le_of_ble_eq_true rfl) rfl h (fun s8 h => ?_)
        refine g_aload_n X 1 dX7_shift_50 rfl ?_
        refine g_getF X (f := (r2 + 12)) dX7_shift_51 lf_X7_144 q3 rfl (fn_4_1 q3) ?_
        refine g_cSI X (K := K_X7_countNotZero) [.ref (r2 + 12)] [] dX7_shift_54 ls_X7_151 rm_X7_shift_X7_countNotZero ⟨by decide, by decide⟩ adA_id rfl (Nat.le_of_ble_eq_true rfl) rfl h (fun x10 s9 q11 h => ?_)
        refine g_istore X (lv' := [(5, .int (iI x10)), (4, .ref r5), (3, .ref r2), (0, .ref 0), (1, .int (iI v1)), (2, .int (iI v2))]) dX7_shift_57 (by decide) rfl ?_
        refine g_aload X 1 dX7_shift_59 rfl ?_
        refine g_aload_n X 3 dX7_shift_61 rfl ?_
        refine g_getF X (f := 6) dX7_shift_62 lf_X7_60 rfl rfl rfl ?_
        refine g_aload_n X 2 dX7_shift_65 rfl ?_
        refine g_getF X (f := (r2 + 12)) dX7_shift_66 lf_X7_144 q3 rfl (fn_4_1 q3) ?_
        refine g_iload_n X 5 dX7_shift_69 rfl ?_
        refine g_cVV X (K := K_X0_shiftInto) [.ref 6, .ref (r2 + 12), .int (iI v2)] [] dX7_shift_70 lv_X7_181 rm_X7_shift_X0_shiftInto ⟨by decide, by decide⟩ adA_id q7 rfl rfl (Nat.le_of_ble_eq_true rfl) rfl h (fun s12 h => ?_)
        refine g_aload_n X 3 dX7_shift_73 rfl ?_
        refine g_getF X (f := 6) dX7_shift_74 lf_X7_60 rfl rfl rfl ?_
        refine g_aload_n X 2 dX7_shift_77 rfl ?_
        refine g_getF X (f := (r2 + 12)) dX7_shift_78 lf_X7_144 q3 rfl (fn_4_1 q3) ?_
        refine g_cSV X (K := K_X7_copyDigits) [.ref 6, .ref (r2 + 12)] [] dX7_shift_81 ls_X7_185 rm_X7_shift_X7_copyDigits ⟨by decide, by decide⟩ adA_id rfl (Nat.le_of_ble_eq_true rfl) rfl h (fun s13 h => ?_)
        refine g_iload X 0 dX7_shift_84 rfl ?_
        refine g_aload_n X 2 dX7_shift_86 rfl ?_
        refine g_getF X (f := (r2 + 12)) dX7_shift_87 lf_X7_144 q3 rfl (fn_4_1 q3) ?_
        refine g_cSI X (K := K_X7_countNotZero) [.ref (r2 + 12)] [.int (iI x10)] dX7_shift_90 ls_X7_151 rm_X7_shift_X7_countNotZero ⟨by decide, by decide⟩ adA_id rfl (Nat.le_of_ble_eq_true rfl) rfl h (fun x15 s14 q16 h => ?_)
        refine g_isub X dX7_shift_93 ?_
        obtain ⟨q17, h⟩ := h
        exact g_iret X hr hlk dX7_shift_94 rfl ⟨_, rfl, q17, h⟩
    · skip
      refine g_if_ne X (tgt := 24) dX7_shift_18 (by decide) (by omega) (fun hc => absurd hc (by decide)) (fun _ => ?_)
      refine g_bipush X dX7_shift_21 (by decide +kernel) ?_
      exact g_iret X hr hlk dX7_shift_23 rfl ⟨_, rfl, (by omega), h⟩
theorem eX7_shift {v1 : Int} {v2 : Int} {σ : ASt} {Q : Int → ASt → Prop}  (h : EvR 4 K_X7_reelAt [.ref 0, .int (iI v1)] σ (fun s1 => Q (-2) s1) (fun r2 s1 => EvZ K_X7_isWithin [.int (iI v2), .int (iI (-9)), .int (iI 9)] s1 (fun s4 => ((gP s4 r2 0 = none → Q (-11) s4) ∧ (∀ r5 : Nat, gP s4 r2 0 = some r5 → shp r5 = (0, 0, 0) ∧ EvV K_X1_keep [.ref 11, .int (iI v1), .ref (r2 + 12)] s4 (fun s8 => EvI K_X7_countNotZero [.ref (r2 + 12)] s8 (fun x10 s9 => EvV K_X0_shiftInto [.ref r5, .ref 6, .ref (r2 + 12), .int (iI v2)] s9 (fun s12 => EvV K_X7_copyDigits [.ref 6, .ref (r2 + 12)] s12 (fun s13 => EvI K_X7_countNotZero [.ref (r2 + 12)] s13 (fun x15 s14 => i32 ((x10 - x15)) ∧ Q (x10 - x15) s14)))))))) (fun s4 => Q (-2) s4))) : EvI K_X7_shift [.ref 0, .int (iI v1), .int (iI v2)] σ Q := Ev.of rfl (Nat.le_of_ble_eq_true rfl) rfl (bX7_shift_0  h)
theorem bX7_soon_0 {v1 : Int} {v2 : Int} {σ : ASt} {Q : Int → ASt → Prop}  (h : EvR 4 K_X7_reelAt [.ref 0, .int (iI v1)] σ (fun s1 => Q (-2) s1) (fun r2 s1 => ((gP s1 r2 0 = none → Q (-11) s1) ∧ (∀ r4 : Nat, gP s1 r2 0 = some r4 → shp r4 = (0, 0, 0) ∧ EvZ K_X0_hasPlace [.ref r4, .int (iI v2)] s1 (fun s7 => EvZ K_X0_allows [.ref r4, .ref (r2 + 12)] s7 (fun s8 => EvL K_X0_turnAhead [.ref r4, .ref (r2 + 12), .int (iI v2)] s8 (fun x10 s9 => ((1000 < x10 → Q (-1) s9) ∧ (x10 ≤ 1000 → EvL K_X0_valueOf [.ref r4, .ref (r2 + 12)] s9 (fun x14 s13 => i64 ((x14 + x10)) ∧ i64 ((gL s13 r4 5)) ∧ (((gL s13 r4 5) < (x14 + x10) → Q (-1) s13) ∧ ((x14 + x10) ≤ (gL s13 r4 5) → i32 (x10) ∧ Q x10 s13))))))) (fun s8 => Q (-3) s8)) (fun s7 => Q (-12) s7))))) : Wx K_X7_soon (QI Q) 0 [(0, .ref 0), (1, .int (iI v1)), (2, .int (iI v2))] [] σ := by
  intro p l e s m args below meth c D cA ad X0 hr hlk
  have X : Cx p s m args c (adA ad) D cA ad RX7 cX7_soon 8 := X0
  refine g_aload_n X 0 dX7_soon_0 rfl ?_
  refine g_iload_n X 1 dX7_soon_1 rfl ?_
  refine g_cVR X (K := K_X7_reelAt) [.int (iI v1)] [] dX7_soon_2 lv_X7_87 rm_X7_soon_X7_reelAt ⟨by decide, by decide⟩ adA_id rfl rfl rfl (Nat.le_of_ble_eq_true rfl) rfl h (fun s1 h => ?_) (fun r2 s1 q3 h => ?_)
  · skip
    refine g_astore_nN X (lv' := [(3, .null), (0, .ref 0), (1, .int (iI v1)), (2, .int (iI v2))]) dX7_soon_5 (by decide) rfl ?_
    refine g_aload_nN X 0 dX7_soon_6 rfl ?_
    refine g_ifnonnullN X dX7_soon_7 ?_
    refine g_bipush X dX7_soon_10 (by decide +kernel) ?_
    exact g_iret X hr hlk dX7_soon_12 rfl ⟨_, rfl, (by omega), h⟩
  · skip
    refine g_astore_n X (lv' := [(3, .ref r2), (0, .ref 0), (1, .int (iI v1)), (2, .int (iI v2))]) dX7_soon_5 (by decide) rfl ?_
    refine g_aload_n X 0 dX7_soon_6 rfl ?_
    refine g_ifnonnull X (tgt := 13) dX7_soon_7 (by decide) ?_
    refine g_aload_n X 0 dX7_soon_13 rfl ?_
    refine g_getP X dX7_soon_14 lf_X7_91 q3 rfl (fun c5 => ?_) (fun r4 c5 => ?_)
    · have h := h.1 c5
      refine g_astoreN X (lv' := [(4, .null), (3, .ref r2), (0, .ref 0), (1, .int (iI v1)), (2, .int (iI v2))]) dX7_soon_17 (by decide) rfl ?_
      refine g_aloadN X 0 dX7_soon_19 rfl ?_
      refine g_ifnonnullN X dX7_soon_21 ?_
      refine g_bipush X dX7_soon_24 (by decide +kernel) ?_
      exact g_iret X hr hlk dX7_soon_26 rfl ⟨_, rfl, (by omega), h⟩
    · obtain ⟨q6, h⟩ := h.2 r4 c5
      refine g_astore X (lv' := [(4, .ref r4), (3, .ref r2), (0, .ref 0), (1, .int (iI v1)), (2, .int (iI v2))]) dX7_soon_17 (by decide) rfl ?_
      refine g_aload X 0 dX7_soon_19 rfl ?_
      refine g_ifnonnull X (tgt := 27) dX7_soon_21 (by decide) ?_
      refine g_aload X 0 dX7_soon_27 rfl ?_
      refine g_iload_n X 4 dX7_soon_29 rfl ?_
      refine g_cVZ X (K := K_X0_hasPlace) [.int (iI v2)] [] dX7_soon_30 lv_X7_113 rm_X7_soon_X0_hasPlace ⟨by decide, by decide⟩ adA_id q6 rfl rfl (Nat.le_of_ble_eq_true rfl) rfl h (fun s7 h => ?_) (fun s7 h => ?_)
      · skip
        refine g_if_ne X (tgt := 39) dX7_soon_33 (by decide) (by omega) (fun _ => ?_) (fun hc => absurd hc (by decide))
        refine g_aload X 0 dX7_soon_39 rfl ?_
        refine g_aload_n X 1 dX7_soon_41 rfl ?_
        refine g_getF X (f := (r2 + 12)) dX7_soon_42 lf_X7_144 q3 rfl (fn_4_1 q3) ?_
        refine g_cVZ X (K := K_X0_allows) [.ref (r2 + 12)] [] dX7_soon_45 lv_X7_147 rm_X7_soon_X0_allows ⟨by decide, by decide⟩ adA_id q6 rfl rfl (Nat.le_of_ble_eq_true rfl) rfl h (fun s8 h => ?_) (fun s8 h => ?_)
        · skip
          refine g_if_ne X (tgt := 54) dX7_soon_48 (by decide) (by omega) (fun _ => ?_) (fun hc => absurd hc (by decide))
          refine g_aload X 0 dX7_soon_54 rfl ?_
          refine g_aload_n X 1 dX7_soon_56 rfl ?_
          refine g_getF X (f := (r2 + 12)) dX7_soon_57 lf_X7_144 q3 rfl (fn_4_1 q3) ?_
          refine g_iload_n X 4 dX7_soon_60 rfl ?_
          refine g_cVL X (K := K_X0_turnAhead) [.ref (r2 + 12), .int (iI v2)] [] dX7_soon_61 lv_X7_191 rm_X7_soon_X0_turnAhead ⟨by decide, by decide⟩ adA_id q6 rfl rfl (Nat.le_of_ble_eq_true rfl) rfl h (fun x10 s9 q11 h => ?_)
          refine g_lstore X (lv' := [(5, .long (lI x10)), (4, .ref r4), (3, .ref r2), (0, .ref 0), (1, .int (iI v1)), (2, .int (iI v2))]) dX7_soon_64 (by decide) rfl ?_
          refine g_lload X 0 dX7_soon_66 rfl ?_
          refine g_ldc2 X (z := 1000) dX7_soon_68 lc_X7_195 (by decide +kernel) ?_
          refine g_lc_gt X (tgt := 100) dX7_soon_71 dX7_soon_72 (by decide) q11 (by omega) (fun c12 => ?_) (fun c12 => ?_)
          · have h := h.1 c12
            refine g_iconst X dX7_soon_100 ?_
            refine g_istore X (lv' := [(7, .int (iI 0)), (5, .long (lI x10)), (4, .ref r4), (3, .ref r2), (0, .ref 0), (1, .int (iI v1)), (2, .int (iI v2))]) dX7_soon_101 (by decide) rfl ?_
            refine g_iload X 0 dX7_soon_103 rfl ?_
            refine g_if_eq X (tgt := 114) dX7_soon_105 (by decide) (by omega) (fun _ => ?_) (fun hc => absurd hc (by decide))
            refine g_iconst X dX7_soon_114 ?_
            exact g_iret X hr hlk dX7_soon_115 rfl ⟨_, rfl, (by omega), h⟩
          · have h := h.2 c12
            refine g_aload X 1 dX7_soon_75 rfl ?_
            refine g_aload_n X 2 dX7_soon_77 rfl ?_
            refine g_getF X (f := (r2 + 12)) dX7_soon_78 lf_X7_144 q3 rfl (fn_4_1 q3) ?_
            refine g_cVL X (K := K_X0_valueOf) [.ref (r2 + 12)] [] dX7_soon_81 lv_X7_158 rm_X7_soon_X0_valueOf ⟨by decide, by decide⟩ adA_id q6 rfl rfl (Nat.le_of_ble_eq_true rfl) rfl h (fun x14 s13 q15 h => ?_)
            refine g_lload X 0 dX7_soon_84 rfl ?_
            refine g_ladd X dX7_soon_86 ?_
            refine g_aload X 1 dX7_soon_87 rfl ?_
            refine g_getL X (z := 5) dX7_soon_89 lf_X7_126 q6 rfl rfl ?_
            obtain ⟨q16, h⟩ := h
            obtain ⟨q17, h⟩ := h
            refine g_lc_gt X (tgt := 100) dX7_soon_92 dX7_soon_93 (by decide) q16 q17 (fun c18 => ?_) (fun c18 => ?_)
            · have h := h.1 c18
              refine g_iconst X dX7_soon_100 ?_
              refine g_istore X (lv' := [(7, .int (iI 0)), (5, .long (lI x10)), (4, .ref r4), (3, .ref r2), (0, .ref 0), (1, .int (iI v1)), (2, .int (iI v2))]) dX7_soon_101 (by decide) rfl ?_
              refine g_iload X 0 dX7_soon_103 rfl ?_
              refine g_if_eq X (tgt := 114) dX7_soon_105 (by decide) (by omega) (fun _ => ?_) (fun hc => absurd hc (by decide))
              refine g_iconst X dX7_soon_114 ?_
              exact g_iret X hr hlk dX7_soon_115 rfl ⟨_, rfl, (by omega), h⟩
            · have h := h.2 c18
              refine g_iconst X dX7_soon_96 ?_
              refine g_goto X (tgt := 101) dX7_soon_97 (by decide) ?_
              refine g_istore X (lv' := [(7, .int (iI 1)), (5, .long (lI x10)), (4, .ref r4), (3, .ref r2), (0, .ref 0), (1, .int (iI v1)), (2, .int (iI v2))]) dX7_soon_101 (by decide) rfl ?_
              refine g_iload X 0 dX7_soon_103 rfl ?_
              refine g_if_eq X (tgt := 114) dX7_soon_105 (by decide) (by omega) (fun hc => absurd hc (by decide)) (fun _ => ?_)
              refine g_lload X 1 dX7_soon_108 rfl ?_
              refine g_l2i X dX7_soon_110 ?_
              refine g_goto X (tgt := 115) dX7_soon_111 (by decide) ?_
              obtain ⟨q19, h⟩ := h
              exact g_iret X hr hlk dX7_soon_115 rfl ⟨_, rfl, q19, h⟩
        · skip
          refine g_if_ne X (tgt := 54) dX7_soon_48 (by decide) (by omega) (fun hc => absurd hc (by decide)) (fun _ => ?_)
          refine g_bipush X dX7_soon_51 (by decide +kernel) ?_
          exact g_iret X hr hlk dX7_soon_53 rfl ⟨_, rfl, (by omega), h⟩
      · skip
        refine g_if_ne X (tgt := 39) dX7_soon_33 (by decide) (by omega) (fun hc => absurd hc (by decide)) (fun _ => ?_)
        refine g_bipush X dX7_soon_36 (by decide +kernel) ?_
        exact g_iret X hr hlk dX7_soon_38 rfl ⟨_, rfl, (by omega), h⟩
theorem eX7_soon {v1 : Int} {v2 : Int} {σ : ASt} {Q : Int → ASt → Prop}  (h : EvR 4 K_X7_reelAt [.ref 0, .int (iI v1)] σ (fun s1 => Q (-2) s1) (fun r2 s1 => ((gP s1 r2 0 = none → Q (-11) s1) ∧ (∀ r4 : Nat, gP s1 r2 0 = some r4 → shp r4 = (0, 0, 0) ∧ EvZ K_X0_hasPlace [.ref r4, .int (iI v2)] s1 (fun s7 => EvZ K_X0_allows [.ref r4, .ref (r2 + 12)] s7 (fun s8 => EvL K_X0_turnAhead [.ref r4, .ref (r2 + 12), .int (iI v2)] s8 (fun x10 s9 => ((1000 < x10 → Q (-1) s9) ∧ (x10 ≤ 1000 → EvL K_X0_valueOf [.ref r4, .ref (r2 + 12)] s9 (fun x14 s13 => i64 ((x14 + x10)) ∧ i64 ((gL s13 r4 5)) ∧ (((gL s13 r4 5) < (x14 + x10) → Q (-1) s13) ∧ ((x14 + x10) ≤ (gL s13 r4 5) → i32 (x10) ∧ Q x10 s13))))))) (fun s8 => Q (-3) s8)) (fun s7 => Q (-12) s7))))) : EvI K_X7_soon [.ref 0, .int (iI v1), .int (iI v2)] σ Q := Ev.of rfl (Nat.le_of_ble_eq_true rfl) rfl (bX7_soon_0  h)
theorem bX7_write_0 {v1 : Int} {v2 : Int} {v3 : Int} {σ : ASt} {Q : Int → ASt → Prop} (h64v3 : i64 v3) (h : EvR 0 K_X7_baseAt [.ref 0, .int (iI v2)] σ (fun s1 => EvR 4 K_X7_reelAt [.ref 0, .int (iI v1)] s1 (fun s4 => Q (-2) s4) (fun r5 s4 => Q (-2) s4)) (fun r2 s1 => EvR 4 K_X7_reelAt [.ref 0, .int (iI v1)] s1 (fun s7 => Q (-2) s7) (fun r8 s7 => ((0 ≤ v3 → i64 ((gL s7 r2 5)) ∧ ((v3 ≤ (gL s7 r2 5) → EvV K_X0_greedyInto [.ref r2, .ref 6, .long (lI v3)] s7 (fun s13 => EvI K_X7_fillReel [.ref 0, .int (iI v1), .ref r2, .ref 6] s13 (fun x15 s14 => Q x15 s14))) ∧ ((gL s7 r2 5) < v3 → Q (-3) s7))) ∧ (v3 < 0 → Q (-2) s7))))) : Wx K_X7_write (QI Q) 0 [(0, .ref 0), (1, .int (iI v1)), (2, .int (iI v2)), (3, .long (lI v3))] [] σ := by
  intro p l e s m args below meth c D cA ad X0 hr hlk
  have X : Cx p s m args c (adA ad) D cA ad RX7 cX7_write 6 := X0
  refine g_aload_n X 0 dX7_write_0 rfl ?_
  refine g_iload_n X 2 dX7_write_1 rfl ?_
  refine g_cVR X (K := K_X7_baseAt) [.int (iI v2)] [] dX7_write_2 lv_X7_75 rm_X7_write_X7_baseAt ⟨by decide, by decide⟩ adA_id rfl rfl rfl (Nat.le_of_ble_eq_true rfl) rfl h (fun s1 h => ?_) (fun r2 s1 q3 h => ?_)
  · skip
    refine g_astoreN X (lv' := [(5, .null), (0, .ref 0), (1, .int (iI v1)), (2, .int (iI v2)), (3, .long (lI v3))]) dX7_write_5 (by decide) rfl ?_
    refine g_aload_n X 1 dX7_write_7 rfl ?_
    refine g_iload_n X 2 dX7_write_8 rfl ?_
    refine g_cVR X (K := K_X7_reelAt) [.int (iI v1)] [] dX7_write_9 lv_X7_87 rm_X7_write_X7_reelAt ⟨by decide, by decide⟩ adA_id rfl rfl rfl (Nat.le_of_ble_eq_true rfl) rfl h (fun s4 h => ?_) (fun r5 s4 q6 h => ?_)
    · skip
      refine g_ifnullN X (tgt := 26) dX7_write_12 (by decide) ?_
      refine g_bipush X dX7_write_26 (by decide +kernel) ?_
      exact g_iret X hr hlk dX7_write_28 rfl ⟨_, rfl, (by omega), h⟩
    · skip
      refine g_ifnull X dX7_write_12 ?_
      refine g_aloadN X 0 dX7_write_15 rfl ?_
      refine g_ifnullN X (tgt := 26) dX7_write_17 (by decide) ?_
      refine g_bipush X dX7_write_26 (by decide +kernel) ?_
      exact g_iret X hr hlk dX7_write_28 rfl ⟨_, rfl, (by omega), h⟩
  · skip
    refine g_astore X (lv' := [(5, .ref r2), (0, .ref 0), (1, .int (iI v1)), (2, .int (iI v2)), (3, .long (lI v3))]) dX7_write_5 (by decide) rfl ?_
    refine g_aload_n X 1 dX7_write_7 rfl ?_
    refine g_iload_n X 2 dX7_write_8 rfl ?_
    refine g_cVR X (K := K_X7_reelAt) [.int (iI v1)] [] dX7_write_9 lv_X7_87 rm_X7_write_X7_reelAt ⟨by decide, by decide⟩ adA_id rfl rfl rfl (Nat.le_of_ble_eq_true rfl) rfl h (fun s7 h => ?_) (fun r8 s7 q9 h => ?_)
    · skip
      refine g_ifnullN X (tgt := 26) dX7_write_12 (by decide) ?_
      refine g_bipush X dX7_write_26 (by decide +kernel) ?_
      exact g_iret X hr hlk dX7_write_28 rfl ⟨_, rfl, (by omega), h⟩
    · skip
      refine g_ifnull X dX7_write_12 ?_
      refine g_aload X 0 dX7_write_15 rfl ?_
      refine g_ifnull X dX7_write_17 ?_
      refine g_lload_n X 4 dX7_write_20 rfl ?_
      refine g_lconst X (z := 0) dX7_write_21 (by decide +kernel) ?_
      refine g_lc_ge X (tgt := 29) dX7_write_22 dX7_write_23 (by decide) h64v3 (by omega) (fun c10 => ?_) (fun c10 => ?_)
      · have h := h.1 c10
        refine g_lload_n X 4 dX7_write_29 rfl ?_
        refine g_aload X 0 dX7_write_30 rfl ?_
        refine g_getL X (z := 5) dX7_write_32 lf_X7_126 q3 rfl rfl ?_
        obtain ⟨q11, h⟩ := h
        refine g_lc_le X (tgt := 42) dX7_write_35 dX7_write_36 (by decide) h64v3 q11 (fun c12 => ?_) (fun c12 => ?_)
        · have h := h.1 c12
          refine g_aload X 0 dX7_write_42 rfl ?_
          refine g_aload_n X 1 dX7_write_44 rfl ?_
          refine g_getF X (f := 6) dX7_write_45 lf_X7_60 rfl rfl rfl ?_
          refine g_lload_n X 4 dX7_write_48 rfl ?_
          refine g_cVV X (K := K_X0_greedyInto) [.ref 6, .long (lI v3)] [] dX7_write_49 lv_X7_133 rm_X7_write_X0_greedyInto ⟨by decide, by decide⟩ adA_id q3 rfl rfl (Nat.le_of_ble_eq_true rfl) rfl h (fun s13 h => ?_)
          refine g_aload_n X 1 dX7_write_52 rfl ?_
          refine g_iload_n X 2 dX7_write_53 rfl ?_
          refine g_aload X 0 dX7_write_54 rfl ?_
          refine g_aload_n X 1 dX7_write_56 rfl ?_
          refine g_getF X (f := 6) dX7_write_57 lf_X7_60 rfl rfl rfl ?_
          refine g_cVI X (K := K_X7_fillReel) [.int (iI v1), .ref r2, .ref 6] [] dX7_write_60 lv_X7_137 rm_X7_write_X7_fillReel ⟨by decide, by decide⟩ adA_id rfl rfl rfl (Nat.le_of_ble_eq_true rfl) rfl h (fun x15 s14 q16 h => ?_)
          exact g_iret X hr hlk dX7_write_63 rfl ⟨_, rfl, q16, h⟩
        · have h := h.2 c12
          refine g_bipush X dX7_write_39 (by decide +kernel) ?_
          exact g_iret X hr hlk dX7_write_41 rfl ⟨_, rfl, (by omega), h⟩
      · have h := h.2 c10
        refine g_bipush X dX7_write_26 (by decide +kernel) ?_
        exact g_iret X hr hlk dX7_write_28 rfl ⟨_, rfl, (by omega), h⟩
theorem eX7_write {v1 : Int} {v2 : Int} {v3 : Int} {σ : ASt} {Q : Int → ASt → Prop} (h64v3 : i64 v3) (h : EvR 0 K_X7_baseAt [.ref 0, .int (iI v2)] σ (fun s1 => EvR 4 K_X7_reelAt [.ref 0, .int (iI v1)] s1 (fun s4 => Q (-2) s4) (fun r5 s4 => Q (-2) s4)) (fun r2 s1 => EvR 4 K_X7_reelAt [.ref 0, .int (iI v1)] s1 (fun s7 => Q (-2) s7) (fun r8 s7 => ((0 ≤ v3 → i64 ((gL s7 r2 5)) ∧ ((v3 ≤ (gL s7 r2 5) → EvV K_X0_greedyInto [.ref r2, .ref 6, .long (lI v3)] s7 (fun s13 => EvI K_X7_fillReel [.ref 0, .int (iI v1), .ref r2, .ref 6] s13 (fun x15 s14 => Q x15 s14))) ∧ ((gL s7 r2 5) < v3 → Q (-3) s7))) ∧ (v3 < 0 → Q (-2) s7))))) : EvI K_X7_write [.ref 0, .int (iI v1), .int (iI v2), .long (lI v3)] σ Q := Ev.of rfl (Nat.le_of_ble_eq_true rfl) rfl (bX7_write_0 h64v3 h)
theorem bX7_sum_0 {v1 : Int} {v2 : Int} {v3 : Int} {v4 : Int} {σ : ASt} {Q : Int → ASt → Prop} (h32v4 : i32 v4) (h : EvR 4 K_X7_reelAt [.ref 0, .int (iI v1)] σ (fun s1 => EvR 4 K_X7_reelAt [.ref 0, .int (iI v2)] s1 (fun s4 => Q (-2) s4) (fun r5 s4 => Q (-2) s4)) (fun r2 s1 => EvR 4 K_X7_reelAt [.ref 0, .int (iI v2)] s1 (fun s7 => Q (-2) s7) (fun r8 s7 => EvR 4 K_X7_reelAt [.ref 0, .int (iI v3)] s7 (fun s10 => Q (-2) s10) (fun r11 s10 => EvZ K_X7_isWithin [.int (iI v4), .int (iI 0), .int (iI 4)] s10 (fun s13 => ((gP s13 r2 0 = none → Q (-11) s13) ∧ (∀ r14 : Nat, gP s13 r2 0 = some r14 → shp r14 = (0, 0, 0) ∧ ((gP s13 r8 0 = none → Q (-11) s13) ∧ (∀ r17 : Nat, gP s13 r8 0 = some r17 → shp r17 = (0, 0, 0) ∧ ((r14 = r17 → ((v4 ≠ 0 → EvL K_X0_valueOf [.ref r14, .ref (r2 + 12)] s13 (fun x25 s24 => EvL K_X0_valueOf [.ref r14, .ref (r8 + 12)] s24 (fun x28 s27 => EvL K_X7_reckon [.long (lI x25), .long (lI x28), .int (iI v4), .long (lI (gL s27 r14 5))] s27 (fun x31 s30 => ((x31 < 0 → Q (-3) s30) ∧ (0 ≤ x31 → i64 ((gL s30 r14 5)) ∧ ((x31 ≤ (gL s30 r14 5) → EvI K_X7_write [.ref 0, .int (iI v3), .int (iI (gI s30 r14 0)), .long (lI x31)] s30 (fun x37 s36 => Q x37 s36)) ∧ ((gL s30 r14 5) < x31 → Q (-3) s30)))))))) ∧ (v4 = 0 → EvZ K_X7_addInto [.ref 6, .ref (r2 + 12), .ref (r8 + 12)] s13 (fun s39 => EvI K_X7_fillReel [.ref 0, .int (iI v3), .ref r14, .ref 6] s39 (fun x41 s40 => Q x41 s40)) (fun s39 => Q (-3) s39)))) ∧ (r14 ≠ r17 → Q (-13) s13))))))) (fun s13 => Q (-2) s13))))) : Wx K_X7_sum (QI Q) 0 [(0, .ref 0), (1, .int (iI v1)), (2, .int (iI v2)), (3, .int (iI v3)), (4, .int (iI v4))] [] σ := by
  intro p l e s m args below meth c D cA ad X0 hr hlk
  have X : Cx p s m args c (adA ad) D cA ad RX7 cX7_sum 10 := X0
  refine g_aload_n X 0 dX7_sum_0 rfl ?_
  refine g_iload_n X 1 dX7_sum_1 rfl ?_
  refine g_cVR X (K := K_X7_reelAt) [.int (iI v1)] [] dX7_sum_2 lv_X7_87 rm_X7_sum_X7_reelAt ⟨by decide, by decide⟩ adA_id rfl rfl rfl (Nat.le_of_ble_eq_true rfl) rfl h (fun s1 h => ?_) (fun r2 s1 q3 h => ?_)
  · skip
    refine g_astoreN X (lv' := [(5, .null), (0, .ref 0), (1, .int (iI v1)), (2, .int (iI v2)), (3, .int (iI v3)), (4, .int (iI v4))]) dX7_sum_5 (by decide) rfl ?_
    refine g_aload_n X 1 dX7_sum_7 rfl ?_
    refine g_iload_n X 3 dX7_sum_8 rfl ?_
    refine g_cVR X (K := K_X7_reelAt) [.int (iI v2)] [] dX7_sum_9 lv_X7_87 rm_X7_sum_X7_reelAt ⟨by decide, by decide⟩ adA_id rfl rfl rfl (Nat.le_of_ble_eq_true rfl) rfl h (fun s4 h => ?_) (fun r5 s4 q6 h => ?_)
    · skip
      refine g_astoreN X (lv' := [(6, .null), (5, .null), (0, .ref 0), (1, .int (iI v1)), (2, .int (iI v2)), (3, .int (iI v3)), (4, .int (iI v4))]) dX7_sum_12 (by decide) rfl ?_
      refine g_aloadN X 1 dX7_sum_14 rfl ?_
      refine g_ifnullN X (tgt := 42) dX7_sum_16 (by decide) ?_
      refine g_bipush X dX7_sum_42 (by decide +kernel) ?_
      exact g_iret X hr hlk dX7_sum_44 rfl ⟨_, rfl, (by omega), h⟩
    · skip
      refine g_astore X (lv' := [(6, .ref r5), (5, .null), (0, .ref 0), (1, .int (iI v1)), (2, .int (iI v2)), (3, .int (iI v3)), (4, .int (iI v4))]) dX7_sum_12 (by decide) rfl ?_
      refine g_aloadN X 1 dX7_sum_14 rfl ?_
      refine g_ifnullN X (tgt := 42) dX7_sum_16 (by decide) ?_
      refine g_bipush X dX7_sum_42 (by decide +kernel) ?_
      exact g_iret X hr hlk dX7_sum_44 rfl ⟨_, rfl, (by omega), h⟩
  · skip
    refine g_astore X (lv' := [(5, .ref r2), (0, .ref 0), (1, .int (iI v1)), (2, .int (iI v2)), (3, .int (iI v3)), (4, .int (iI v4))]) dX7_sum_5 (by decide) rfl ?_
    refine g_aload_n X 1 dX7_sum_7 rfl ?_
    refine g_iload_n X 3 dX7_sum_8 rfl ?_
    refine g_cVR X (K := K_X7_reelAt) [.int (iI v2)] [] dX7_sum_9 lv_X7_87 rm_X7_sum_X7_reelAt ⟨by decide, by decide⟩ adA_id rfl rfl rfl (Nat.le_of_ble_eq_true rfl) rfl h (fun s7 h => ?_) (fun r8 s7 q9 h => ?_)
    · skip
      refine g_astoreN X (lv' := [(6, .null), (5, .ref r2), (0, .ref 0), (1, .int (iI v1)), (2, .int (iI v2)), (3, .int (iI v3)), (4, .int (iI v4))]) dX7_sum_12 (by decide) rfl ?_
      refine g_aload X 1 dX7_sum_14 rfl ?_
      refine g_ifnull X dX7_sum_16 ?_
      refine g_aloadN X 0 dX7_sum_19 rfl ?_
      refine g_ifnullN X (tgt := 42) dX7_sum_21 (by decide) ?_
      refine g_bipush X dX7_sum_42 (by decide +kernel) ?_
      exact g_iret X hr hlk dX7_sum_44 rfl ⟨_, rfl, (by omega), h⟩
    · skip
      refine g_astore X (lv' := [(6, .ref r8), (5, .ref r2), (0, .ref 0), (1, .int (iI v1)), (2, .int (iI v2)), (3, .int (iI v3)), (4, .int (iI v4))]) dX7_sum_12 (by decide) rfl ?_
      refine g_aload X 1 dX7_sum_14 rfl ?_
      refine g_ifnull X dX7_sum_16 ?_
      refine g_aload X 0 dX7_sum_19 rfl ?_
      refine g_ifnull X dX7_sum_21 ?_
      refine g_aload_n X 2 dX7_sum_24 rfl ?_
      refine g_iload_n X 5 dX7_sum_25 rfl ?_
      refine g_cVR X (K := K_X7_reelAt) [.int (iI v3)] [] dX7_sum_26 lv_X7_87 rm_X7_sum_X7_reelAt ⟨by decide, by decide⟩ adA_id rfl rfl rfl (Nat.le_of_ble_eq_true rfl) rfl h (fun s10 h => ?_) (fun r11 s10 q12 h => ?_)
      · skip
        refine g_ifnullN X (tgt := 42) dX7_sum_29 (by decide) ?_
        refine g_bipush X dX7_sum_42 (by decide +kernel) ?_
        exact g_iret X hr hlk dX7_sum_44 rfl ⟨_, rfl, (by omega), h⟩
      · skip
        refine g_ifnull X dX7_sum_29 ?_
        refine g_iload X 6 dX7_sum_32 rfl ?_
        refine g_iconst X dX7_sum_34 ?_
        refine g_iconst X dX7_sum_35 ?_
        refine g_cSZ X (K := K_X7_isWithin) [.int (iI v4), .int (iI 0), .int (iI 4)] [] dX7_sum_36 ls_X7_102 rm_X7_sum_X7_isWithin ⟨by decide, by decide⟩ adA_id rfl (Nat.le_of_ble_eq_true rfl) rfl h (fun s13 h => ?_) (fun s13 h => ?_)
        · skip
          refine g_if_ne X (tgt := 45) dX7_sum_39 (by decide) (by omega) (fun _ => ?_) (fun hc => absurd hc (by decide))
          refine g_aload X 1 dX7_sum_45 rfl ?_
          refine g_getP X dX7_sum_47 lf_X7_91 q3 rfl (fun c15 => ?_) (fun r14 c15 => ?_)
          · have h := h.1 c15
            refine g_astoreN X (lv' := [(7, .null), (6, .ref r8), (5, .ref r2), (0, .ref 0), (1, .int (iI v1)), (2, .int (iI v2)), (3, .int (iI v3)), (4, .int (iI v4))]) dX7_sum_50 (by decide) rfl ?_
            refine g_aloadN X 0 dX7_sum_52 rfl ?_
            refine g_ifnullN X (tgt := 65) dX7_sum_54 (by decide) ?_
            refine g_bipush X dX7_sum_65 (by decide +kernel) ?_
            exact g_iret X hr hlk dX7_sum_67 rfl ⟨_, rfl, (by omega), h⟩
          · obtain ⟨q16, h⟩ := h.2 r14 c15
            refine g_astore X (lv' := [(7, .ref r14), (6, .ref r8), (5, .ref r2), (0, .ref 0), (1, .int (iI v1)), (2, .int (iI v2)), (3, .int (iI v3)), (4, .int (iI v4))]) dX7_sum_50 (by decide) rfl ?_
            refine g_aload X 0 dX7_sum_52 rfl ?_
            refine g_ifnull X dX7_sum_54 ?_
            refine g_aload X 1 dX7_sum_57 rfl ?_
            refine g_getP X dX7_sum_59 lf_X7_91 q9 rfl (fun c18 => ?_) (fun r17 c18 => ?_)
            · have h := h.1 c18
              refine g_ifnonnullN X dX7_sum_62 ?_
              refine g_bipush X dX7_sum_65 (by decide +kernel) ?_
              exact g_iret X hr hlk dX7_sum_67 rfl ⟨_, rfl, (by omega), h⟩
            · obtain ⟨q19, h⟩ := h.2 r17 c18
              refine g_ifnonnull X (tgt := 68) dX7_sum_62 (by decide) ?_
              refine g_aload X 0 dX7_sum_68 rfl ?_
              refine g_aload X 1 dX7_sum_70 rfl ?_
              refine g_getPs X dX7_sum_72 lf_X7_91 q9 rfl c18 ?_
              refine g_acmp_eq X (tgt := 81) dX7_sum_75 (by decide) (shp_lt q16 (by decide)) (shp_lt q19 (by decide)) (fun c22 => ?_) (fun c22 => ?_)
              · have h := h.1 c22
                refine g_iload X 7 dX7_sum_81 rfl ?_
                refine g_if_ne X (tgt := 123) dX7_sum_83 (by decide) h32v4 (fun c23 => ?_) (fun c23 => ?_)
                · have h := h.1 c23
                  refine g_aload X 0 dX7_sum_123 rfl ?_
                  refine g_aload X 2 dX7_sum_125 rfl ?_
                  refine g_getF X (f := (r2 + 12)) dX7_sum_127 lf_X7_144 q3 rfl (fn_4_1 q3) ?_
                  refine g_cVL X (K := K_X0_valueOf) [.ref (r2 + 12)] [] dX7_sum_130 lv_X7_158 rm_X7_sum_X0_valueOf ⟨by decide, by decide⟩ adA_id q16 rfl rfl (Nat.le_of_ble_eq_true rfl) rfl h (fun x25 s24 q26 h => ?_)
                  refine g_aload X 0 dX7_sum_133 rfl ?_
                  refine g_aload X 1 dX7_sum_135 rfl ?_
                  refine g_getF X (f := (r8 + 12)) dX7_sum_137 lf_X7_144 q9 rfl (fn_4_1 q9) ?_
                  refine g_cVL X (K := K_X0_valueOf) [.ref (r8 + 12)] [.long (lI x25)] dX7_sum_140 lv_X7_158 rm_X7_sum_X0_valueOf ⟨by decide, by decide⟩ adA_id q16 rfl rfl (Nat.le_of_ble_eq_true rfl) rfl h (fun x28 s27 q29 h => ?_)
                  refine g_iload X 7 dX7_sum_143 rfl ?_
                  refine g_aload X 0 dX7_sum_145 rfl ?_
                  refine g_getL X (z := 5) dX7_sum_147 lf_X7_126 q16 rfl rfl ?_
                  refine g_cSL X (K := K_X7_reckon) [.long (lI x25), .long (lI x28), .int (iI v4), .long (lI (gL s27 r14 5))] [] dX7_sum_150 ls_X7_201 rm_X7_sum_X7_reckon ⟨by decide, by decide⟩ adA_id rfl (Nat.le_of_ble_eq_true rfl) rfl h (fun x31 s30 q32 h => ?_)
                  refine g_lstore X (lv' := [(8, .long (lI x31)), (7, .ref r14), (6, .ref r8), (5, .ref r2), (0, .ref 0), (1, .int (iI v1)), (2, .int (iI v2)), (3, .int (iI v3)), (4, .int (iI v4))]) dX7_sum_153 (by decide) rfl ?_
                  refine g_lload X 0 dX7_sum_155 rfl ?_
                  refine g_lconst X (z := 0) dX7_sum_157 (by decide +kernel) ?_
                  refine g_lc_lt X (tgt := 173) dX7_sum_158 dX7_sum_159 (by decide) q32 (by omega) (fun c33 => ?_) (fun c33 => ?_)
                  · have h := h.1 c33
                    refine g_bipush X dX7_sum_173 (by decide +kernel) ?_
                    refine g_goto X (tgt := 190) dX7_sum_175 (by decide) ?_
                    exact g_iret X hr hlk dX7_sum_190 rfl ⟨_, rfl, (by omega), h⟩
                  · have h := h.2 c33
                    refine g_lload X 0 dX7_sum_162 rfl ?_
                    refine g_aload X 1 dX7_sum_164 rfl ?_
                    refine g_getL X (z := 5) dX7_sum_166 lf_X7_126 q16 rfl rfl ?_
                    obtain ⟨q34, h⟩ := h
                    refine g_lc_le X (tgt := 178) dX7_sum_169 dX7_sum_170 (by decide) q32 q34 (fun c35 => ?_) (fun c35 => ?_)
                    · have h := h.1 c35
                      refine g_aload_n X 4 dX7_sum_178 rfl ?_
                      refine g_iload_n X 7 dX7_sum_179 rfl ?_
                      refine g_aload X 1 dX7_sum_180 rfl ?_
                      refine g_getI X (z := 0) dX7_sum_182 lf_X7_141 q16 rfl rfl ?_
                      refine g_lload X 0 dX7_sum_185 rfl ?_
                      refine g_cVI X (K := K_X7_write) [.int (iI v3), .int (iI (gI s30 r14 0)), .long (lI x31)] [] dX7_sum_187 lv_X7_205 rm_X7_sum_X7_write ⟨by decide, by decide⟩ adA_id rfl rfl rfl (Nat.le_of_ble_eq_true rfl) rfl h (fun x37 s36 q38 h => ?_)
                      exact g_iret X hr hlk dX7_sum_190 rfl ⟨_, rfl, q38, h⟩
                    · have h := h.2 c35
                      refine g_bipush X dX7_sum_173 (by decide +kernel) ?_
                      refine g_goto X (tgt := 190) dX7_sum_175 (by decide) ?_
                      exact g_iret X hr hlk dX7_sum_190 rfl ⟨_, rfl, (by omega), h⟩
                · have h := h.2 c23
                  refine g_aload_n X 3 dX7_sum_86 rfl ?_
                  refine g_getF X (f := 6) dX7_sum_87 lf_X7_60 rfl rfl rfl ?_
                  refine g_aload X 2 dX7_sum_90 rfl ?_
                  refine g_getF X (f := (r2 + 12)) dX7_sum_92 lf_X7_144 q3 rfl (fn_4_1 q3) ?_
                  refine g_aload X 1 dX7_sum_95 rfl ?_
                  refine g_getF X (f := (r8 + 12)) dX7_sum_97 lf_X7_144 q9 rfl (fn_4_1 q9) ?_
                  refine g_cSZ X (K := K_X7_addInto) [.ref 6, .ref (r2 + 12), .ref (r8 + 12)] [] dX7_sum_100 ls_X7_197 rm_X7_sum_X7_addInto ⟨by decide, by decide⟩ adA_id rfl (Nat.le_of_ble_eq_true rfl) rfl h (fun s39 h => ?_) (fun s39 h => ?_)
                  · skip
                    refine g_if_eq X (tgt := 120) dX7_sum_103 (by decide) (by omega) (fun hc => absurd hc (by decide)) (fun _ => ?_)
                    refine g_aload_n X 3 dX7_sum_106 rfl ?_
                    refine g_iload_n X 6 dX7_sum_107 rfl ?_
                    refine g_aload X 0 dX7_sum_108 rfl ?_
                    refine g_aload_n X 3 dX7_sum_110 rfl ?_
                    refine g_getF X (f := 6) dX7_sum_111 lf_X7_60 rfl rfl rfl ?_
                    refine g_cVI X (K := K_X7_fillReel) [.int (iI v3), .ref r14, .ref 6] [] dX7_sum_114 lv_X7_137 rm_X7_sum_X7_fillReel ⟨by decide, by decide⟩ adA_id rfl rfl rfl (Nat.le_of_ble_eq_true rfl) rfl h (fun x41 s40 q42 h => ?_)
                    refine g_goto X (tgt := 122) dX7_sum_117 (by decide) ?_
                    exact g_iret X hr hlk dX7_sum_122 rfl ⟨_, rfl, q42, h⟩
                  · skip
                    refine g_if_eq X (tgt := 120) dX7_sum_103 (by decide) (by omega) (fun _ => ?_) (fun hc => absurd hc (by decide))
                    refine g_bipush X dX7_sum_120 (by decide +kernel) ?_
                    exact g_iret X hr hlk dX7_sum_122 rfl ⟨_, rfl, (by omega), h⟩
              · have h := h.2 c22
                refine g_bipush X dX7_sum_78 (by decide +kernel) ?_
                exact g_iret X hr hlk dX7_sum_80 rfl ⟨_, rfl, (by omega), h⟩
        · skip
          refine g_if_ne X (tgt := 45) dX7_sum_39 (by decide) (by omega) (fun hc => absurd hc (by decide)) (fun _ => ?_)
          refine g_bipush X dX7_sum_42 (by decide +kernel) ?_
          exact g_iret X hr hlk dX7_sum_44 rfl ⟨_, rfl, (by omega), h⟩
theorem eX7_sum {v1 : Int} {v2 : Int} {v3 : Int} {v4 : Int} {σ : ASt} {Q : Int → ASt → Prop} (h32v4 : i32 v4) (h : EvR 4 K_X7_reelAt [.ref 0, .int (iI v1)] σ (fun s1 => EvR 4 K_X7_reelAt [.ref 0, .int (iI v2)] s1 (fun s4 => Q (-2) s4) (fun r5 s4 => Q (-2) s4)) (fun r2 s1 => EvR 4 K_X7_reelAt [.ref 0, .int (iI v2)] s1 (fun s7 => Q (-2) s7) (fun r8 s7 => EvR 4 K_X7_reelAt [.ref 0, .int (iI v3)] s7 (fun s10 => Q (-2) s10) (fun r11 s10 => EvZ K_X7_isWithin [.int (iI v4), .int (iI 0), .int (iI 4)] s10 (fun s13 => ((gP s13 r2 0 = none → Q (-11) s13) ∧ (∀ r14 : Nat, gP s13 r2 0 = some r14 → shp r14 = (0, 0, 0) ∧ ((gP s13 r8 0 = none → Q (-11) s13) ∧ (∀ r17 : Nat, gP s13 r8 0 = some r17 → shp r17 = (0, 0, 0) ∧ ((r14 = r17 → ((v4 ≠ 0 → EvL K_X0_valueOf [.ref r14, .ref (r2 + 12)] s13 (fun x25 s24 => EvL K_X0_valueOf [.ref r14, .ref (r8 + 12)] s24 (fun x28 s27 => EvL K_X7_reckon [.long (lI x25), .long (lI x28), .int (iI v4), .long (lI (gL s27 r14 5))] s27 (fun x31 s30 => ((x31 < 0 → Q (-3) s30) ∧ (0 ≤ x31 → i64 ((gL s30 r14 5)) ∧ ((x31 ≤ (gL s30 r14 5) → EvI K_X7_write [.ref 0, .int (iI v3), .int (iI (gI s30 r14 0)), .long (lI x31)] s30 (fun x37 s36 => Q x37 s36)) ∧ ((gL s30 r14 5) < x31 → Q (-3) s30)))))))) ∧ (v4 = 0 → EvZ K_X7_addInto [.ref 6, .ref (r2 + 12), .ref (r8 + 12)] s13 (fun s39 => EvI K_X7_fillReel [.ref 0, .int (iI v3), .ref r14, .ref 6] s39 (fun x41 s40 => Q x41 s40)) (fun s39 => Q (-3) s39)))) ∧ (r14 ≠ r17 → Q (-13) s13))))))) (fun s13 => Q (-2) s13))))) : EvI K_X7_sum [.ref 0, .int (iI v1), .int (iI v2), .int (iI v3), .int (iI v4)] σ Q := Ev.of rfl (Nat.le_of_ble_eq_true rfl) rfl (bX7_sum_0 h32v4 h)
theorem bX7_taken_0 {v1 : Int} {v2 : Int} {σ : ASt} {Q : Int → ASt → Prop}  (h : EvR 0 K_X7_baseAt [.ref 0, .int (iI v1)] σ (fun s1 => Q (-2) s1) (fun r2 s1 => EvZ K_X7_isWithin [.int (iI v2), .int (iI 0), .int (iI 3)] s1 (fun s4 => EvI K_X0_kind [.ref r2] s4 (fun x6 s5 => EvZ K_X7_isUnder [.int (iI x6), .int (iI v2)] s5 (fun s8 => Q x6 s8) (fun s8 => Q (-13) s8))) (fun s4 => Q (-2) s4))) : Wx K_X7_taken (QI Q) 0 [(0, .ref 0), (1, .int (iI v1)), (2, .int (iI v2))] [] σ := by
  intro p l e s m args below meth c D cA ad X0 hr hlk
  have X : Cx p s m args c (adA ad) D cA ad RX7 cX7_taken 5 := X0
  refine g_aload_n X 0 dX7_taken_0 rfl ?_
  refine g_iload_n X 1 dX7_taken_1 rfl ?_
  refine g_cVR X (K := K_X7_baseAt) [.int (iI v1)] [] dX7_taken_2 lv_X7_75 rm_X7_taken_X7_baseAt ⟨by decide, by decide⟩ adA_id rfl rfl rfl (Nat.le_of_ble_eq_true rfl) rfl h (fun s1 h => ?_) (fun r2 s1 q3 h => ?_)
  · skip
    refine g_astore_nN X (lv' := [(3, .null), (0, .ref 0), (1, .int (iI v1)), (2, .int (iI v2))]) dX7_taken_5 (by decide) rfl ?_
    refine g_aload_nN X 0 dX7_taken_6 rfl ?_
    refine g_ifnullN X (tgt := 19) dX7_taken_7 (by decide) ?_
    refine g_bipush X dX7_taken_19 (by decide +kernel) ?_
    exact g_iret X hr hlk dX7_taken_21 rfl ⟨_, rfl, (by omega), h⟩
  · skip
    refine g_astore_n X (lv' := [(3, .ref r2), (0, .ref 0), (1, .int (iI v1)), (2, .int (iI v2))]) dX7_taken_5 (by decide) rfl ?_
    refine g_aload_n X 0 dX7_taken_6 rfl ?_
    refine g_ifnull X dX7_taken_7 ?_
    refine g_iload_n X 3 dX7_taken_10 rfl ?_
    refine g_iconst X dX7_taken_11 ?_
    refine g_iconst X dX7_taken_12 ?_
    refine g_cSZ X (K := K_X7_isWithin) [.int (iI v2), .int (iI 0), .int (iI 3)] [] dX7_taken_13 ls_X7_102 rm_X7_taken_X7_isWithin ⟨by decide, by decide⟩ adA_id rfl (Nat.le_of_ble_eq_true rfl) rfl h (fun s4 h => ?_) (fun s4 h => ?_)
    · skip
      refine g_if_ne X (tgt := 22) dX7_taken_16 (by decide) (by omega) (fun _ => ?_) (fun hc => absurd hc (by decide))
      refine g_aload_n X 0 dX7_taken_22 rfl ?_
      refine g_cVI X (K := K_X0_kind) [] [] dX7_taken_23 lv_X7_106 rm_X7_taken_X0_kind ⟨by decide, by decide⟩ adA_id q3 rfl rfl (Nat.le_of_ble_eq_true rfl) rfl h (fun x6 s5 q7 h => ?_)
      refine g_istore X (lv' := [(4, .int (iI x6)), (3, .ref r2), (0, .ref 0), (1, .int (iI v1)), (2, .int (iI v2))]) dX7_taken_26 (by decide) rfl ?_
      refine g_iload X 0 dX7_taken_28 rfl ?_
      refine g_iload_n X 4 dX7_taken_30 rfl ?_
      refine g_cSZ X (K := K_X7_isUnder) [.int (iI x6), .int (iI v2)] [] dX7_taken_31 ls_X7_130 rm_X7_taken_X7_isUnder ⟨by decide, by decide⟩ adA_id rfl (Nat.le_of_ble_eq_true rfl) rfl h (fun s8 h => ?_) (fun s8 h => ?_)
      · skip
        refine g_if_eq X (tgt := 42) dX7_taken_34 (by decide) (by omega) (fun hc => absurd hc (by decide)) (fun _ => ?_)
        refine g_iload X 0 dX7_taken_37 rfl ?_
        refine g_goto X (tgt := 44) dX7_taken_39 (by decide) ?_
        exact g_iret X hr hlk dX7_taken_44 rfl ⟨_, rfl, q7, h⟩
      · skip
        refine g_if_eq X (tgt := 42) dX7_taken_34 (by decide) (by omega) (fun _ => ?_) (fun hc => absurd hc (by decide))
        refine g_bipush X dX7_taken_42 (by decide +kernel) ?_
        exact g_iret X hr hlk dX7_taken_44 rfl ⟨_, rfl, (by omega), h⟩
    · skip
      refine g_if_ne X (tgt := 22) dX7_taken_16 (by decide) (by omega) (fun hc => absurd hc (by decide)) (fun _ => ?_)
      refine g_bipush X dX7_taken_19 (by decide +kernel) ?_
      exact g_iret X hr hlk dX7_taken_21 rfl ⟨_, rfl, (by omega), h⟩
theorem eX7_taken {v1 : Int} {v2 : Int} {σ : ASt} {Q : Int → ASt → Prop}  (h : EvR 0 K_X7_baseAt [.ref 0, .int (iI v1)] σ (fun s1 => Q (-2) s1) (fun r2 s1 => EvZ K_X7_isWithin [.int (iI v2), .int (iI 0), .int (iI 3)] s1 (fun s4 => EvI K_X0_kind [.ref r2] s4 (fun x6 s5 => EvZ K_X7_isUnder [.int (iI x6), .int (iI v2)] s5 (fun s8 => Q x6 s8) (fun s8 => Q (-13) s8))) (fun s4 => Q (-2) s4))) : EvI K_X7_taken [.ref 0, .int (iI v1), .int (iI v2)] σ Q := Ev.of rfl (Nat.le_of_ble_eq_true rfl) rfl (bX7_taken_0  h)
theorem bX7_told_0 {v1 : Int} {v2 : Int} {σ : ASt} {Q : Int → ASt → Prop} (h32v2 : i32 v2) (h : EvR 4 K_X7_reelAt [.ref 0, .int (iI v1)] σ (fun s1 => Q (-2) s1) (fun r2 s1 => EvZ K_X7_isWithin [.int (iI v2), .int (iI 0), .int (iI 3)] s1 (fun s4 => ((gP s4 r2 0 = none → Q (-11) s4) ∧ (∀ r5 : Nat, gP s4 r2 0 = some r5 → shp r5 = (0, 0, 0) ∧ ((v2 = 0 → i32 ((gI s4 r5 0)) ∧ Q (gI s4 r5 0) s4) ∧ (v2 = 1 → EvZ K_X0_allows [.ref r5, .ref (r2 + 12)] s4 (fun s11 => Q 1 s11) (fun s11 => Q 0 s11)) ∧ (v2 = 2 → EvI K_X7_countNotZero [.ref (r2 + 12)] s4 (fun x14 s13 => Q x14 s13)) ∧ (v2 < 0 ∨ 2 < v2 → EvI K_X7_highestNotZero [.ref (r2 + 12)] s4 (fun x17 s16 => Q x17 s16)))))) (fun s4 => Q (-2) s4))) : Wx K_X7_told (QI Q) 0 [(0, .ref 0), (1, .int (iI v1)), (2, .int (iI v2))] [] σ := by
  intro p l e s m args below meth c D cA ad X0 hr hlk
  have X : Cx p s m args c (adA ad) D cA ad RX7 cX7_told 5 := X0
  refine g_aload_n X 0 dX7_told_0 rfl ?_
  refine g_iload_n X 1 dX7_told_1 rfl ?_
  refine g_cVR X (K := K_X7_reelAt) [.int (iI v1)] [] dX7_told_2 lv_X7_87 rm_X7_told_X7_reelAt ⟨by decide, by decide⟩ adA_id rfl rfl rfl (Nat.le_of_ble_eq_true rfl) rfl h (fun s1 h => ?_) (fun r2 s1 q3 h => ?_)
  · skip
    refine g_astore_nN X (lv' := [(3, .null), (0, .ref 0), (1, .int (iI v1)), (2, .int (iI v2))]) dX7_told_5 (by decide) rfl ?_
    refine g_aload_nN X 0 dX7_told_6 rfl ?_
    refine g_ifnullN X (tgt := 19) dX7_told_7 (by decide) ?_
    refine g_bipush X dX7_told_19 (by decide +kernel) ?_
    exact g_iret X hr hlk dX7_told_21 rfl ⟨_, rfl, (by omega), h⟩
  · skip
    refine g_astore_n X (lv' := [(3, .ref r2), (0, .ref 0), (1, .int (iI v1)), (2, .int (iI v2))]) dX7_told_5 (by decide) rfl ?_
    refine g_aload_n X 0 dX7_told_6 rfl ?_
    refine g_ifnull X dX7_told_7 ?_
    refine g_iload_n X 3 dX7_told_10 rfl ?_
    refine g_iconst X dX7_told_11 ?_
    refine g_iconst X dX7_told_12 ?_
    refine g_cSZ X (K := K_X7_isWithin) [.int (iI v2), .int (iI 0), .int (iI 3)] [] dX7_told_13 ls_X7_102 rm_X7_told_X7_isWithin ⟨by decide, by decide⟩ adA_id rfl (Nat.le_of_ble_eq_true rfl) rfl h (fun s4 h => ?_) (fun s4 h => ?_)
    · skip
      refine g_if_ne X (tgt := 22) dX7_told_16 (by decide) (by omega) (fun _ => ?_) (fun hc => absurd hc (by decide))
      refine g_aload_n X 0 dX7_told_22 rfl ?_
      refine g_getP X dX7_told_23 lf_X7_91 q3 rfl (fun c6 => ?_) (fun r5 c6 => ?_)
      · have h := h.1 c6
        refine g_astoreN X (lv' := [(4, .null), (3, .ref r2), (0, .ref 0), (1, .int (iI v1)), (2, .int (iI v2))]) dX7_told_26 (by decide) rfl ?_
        refine g_aloadN X 0 dX7_told_28 rfl ?_
        refine g_ifnonnullN X dX7_told_30 ?_
        refine g_bipush X dX7_told_33 (by decide +kernel) ?_
        exact g_iret X hr hlk dX7_told_35 rfl ⟨_, rfl, (by omega), h⟩
      · obtain ⟨q7, h⟩ := h.2 r5 c6
        refine g_astore X (lv' := [(4, .ref r5), (3, .ref r2), (0, .ref 0), (1, .int (iI v1)), (2, .int (iI v2))]) dX7_told_26 (by decide) rfl ?_
        refine g_aload X 0 dX7_told_28 rfl ?_
        refine g_ifnonnull X (tgt := 36) dX7_told_30 (by decide) ?_
        refine g_iload_n X 4 dX7_told_36 rfl ?_
        by_cases c8 : v2 = 0
        · have h := h.1 c8
          refine g_tswIn X (tgt := 64) 0 dX7_told_37 h32v2 (by omega) (by omega) rfl (by decide) ?_
          refine g_aload X 0 dX7_told_64 rfl ?_
          refine g_getI X (z := 0) dX7_told_66 lf_X7_141 q7 rfl rfl ?_
          obtain ⟨q9, h⟩ := h
          exact g_iret X hr hlk dX7_told_69 rfl ⟨_, rfl, q9, h⟩
        by_cases c10 : v2 = 1
        · have h := h.2.1 c10
          refine g_tswIn X (tgt := 70) 1 dX7_told_37 h32v2 (by omega) (by omega) rfl (by decide) ?_
          refine g_aload X 0 dX7_told_70 rfl ?_
          refine g_aload_n X 1 dX7_told_72 rfl ?_
          refine g_getF X (f := (r2 + 12)) dX7_told_73 lf_X7_144 q3 rfl (fn_4_1 q3) ?_
          refine g_cVZ X (K := K_X0_allows) [.ref (r2 + 12)] [] dX7_told_76 lv_X7_147 rm_X7_told_X0_allows ⟨by decide, by decide⟩ adA_id q7 rfl rfl (Nat.le_of_ble_eq_true rfl) rfl h (fun s11 h => ?_) (fun s11 h => ?_)
          · skip
            refine g_if_eq X (tgt := 86) dX7_told_79 (by decide) (by omega) (fun hc => absurd hc (by decide)) (fun _ => ?_)
            refine g_iconst X dX7_told_82 ?_
            refine g_goto X (tgt := 87) dX7_told_83 (by decide) ?_
            exact g_iret X hr hlk dX7_told_87 rfl ⟨_, rfl, (by omega), h⟩
          · skip
            refine g_if_eq X (tgt := 86) dX7_told_79 (by decide) (by omega) (fun _ => ?_) (fun hc => absurd hc (by decide))
            refine g_iconst X dX7_told_86 ?_
            exact g_iret X hr hlk dX7_told_87 rfl ⟨_, rfl, (by omega), h⟩
        by_cases c12 : v2 = 2
        · have h := h.2.2.1 c12
          refine g_tswIn X (tgt := 88) 2 dX7_told_37 h32v2 (by omega) (by omega) rfl (by decide) ?_
          refine g_aload_n X 1 dX7_told_88 rfl ?_
          refine g_getF X (f := (r2 + 12)) dX7_told_89 lf_X7_144 q3 rfl (fn_4_1 q3) ?_
          refine g_cSI X (K := K_X7_countNotZero) [.ref (r2 + 12)] [] dX7_told_92 ls_X7_151 rm_X7_told_X7_countNotZero ⟨by decide, by decide⟩ adA_id rfl (Nat.le_of_ble_eq_true rfl) rfl h (fun x14 s13 q15 h => ?_)
          exact g_iret X hr hlk dX7_told_95 rfl ⟨_, rfl, q15, h⟩
        have h := h.2.2.2 (by omega)
        refine g_tswOut X (tgt := 96) dX7_told_37 h32v2 (by omega) (by decide) ?_
        refine g_aload_n X 1 dX7_told_96 rfl ?_
        refine g_getF X (f := (r2 + 12)) dX7_told_97 lf_X7_144 q3 rfl (fn_4_1 q3) ?_
        refine g_cSI X (K := K_X7_highestNotZero) [.ref (r2 + 12)] [] dX7_told_100 ls_X7_155 rm_X7_told_X7_highestNotZero ⟨by decide, by decide⟩ adA_id rfl (Nat.le_of_ble_eq_true rfl) rfl h (fun x17 s16 q18 h => ?_)
        exact g_iret X hr hlk dX7_told_103 rfl ⟨_, rfl, q18, h⟩
    · skip
      refine g_if_ne X (tgt := 22) dX7_told_16 (by decide) (by omega) (fun hc => absurd hc (by decide)) (fun _ => ?_)
      refine g_bipush X dX7_told_19 (by decide +kernel) ?_
      exact g_iret X hr hlk dX7_told_21 rfl ⟨_, rfl, (by omega), h⟩
theorem eX7_told {v1 : Int} {v2 : Int} {σ : ASt} {Q : Int → ASt → Prop} (h32v2 : i32 v2) (h : EvR 4 K_X7_reelAt [.ref 0, .int (iI v1)] σ (fun s1 => Q (-2) s1) (fun r2 s1 => EvZ K_X7_isWithin [.int (iI v2), .int (iI 0), .int (iI 3)] s1 (fun s4 => ((gP s4 r2 0 = none → Q (-11) s4) ∧ (∀ r5 : Nat, gP s4 r2 0 = some r5 → shp r5 = (0, 0, 0) ∧ ((v2 = 0 → i32 ((gI s4 r5 0)) ∧ Q (gI s4 r5 0) s4) ∧ (v2 = 1 → EvZ K_X0_allows [.ref r5, .ref (r2 + 12)] s4 (fun s11 => Q 1 s11) (fun s11 => Q 0 s11)) ∧ (v2 = 2 → EvI K_X7_countNotZero [.ref (r2 + 12)] s4 (fun x14 s13 => Q x14 s13)) ∧ (v2 < 0 ∨ 2 < v2 → EvI K_X7_highestNotZero [.ref (r2 + 12)] s4 (fun x17 s16 => Q x17 s16)))))) (fun s4 => Q (-2) s4))) : EvI K_X7_told [.ref 0, .int (iI v1), .int (iI v2)] σ Q := Ev.of rfl (Nat.le_of_ble_eq_true rfl) rfl (bX7_told_0 h32v2 h)
theorem bX7_top_0 {v1 : Int} {σ : ASt} {Q : Int → ASt → Prop}  (h : EvR 0 K_X7_baseAt [.ref 0, .int (iI v1)] σ (fun s1 => Q (-9223372036854775808) s1) (fun r2 s1 => i64 ((gL s1 r2 5)) ∧ Q (gL s1 r2 5) s1)) : Wx K_X7_top (QL Q) 0 [(0, .ref 0), (1, .int (iI v1))] [] σ := by
  intro p l e s m args below meth c D cA ad X0 hr hlk
  have X : Cx p s m args c (adA ad) D cA ad RX7 cX7_top 3 := X0
  refine g_aload_n X 0 dX7_top_0 rfl ?_
  refine g_iload_n X 1 dX7_top_1 rfl ?_
  refine g_cVR X (K := K_X7_baseAt) [.int (iI v1)] [] dX7_top_2 lv_X7_75 rm_X7_top_X7_baseAt ⟨by decide, by decide⟩ adA_id rfl rfl rfl (Nat.le_of_ble_eq_true rfl) rfl h (fun s1 h => ?_) (fun r2 s1 q3 h => ?_)
  · skip
    refine g_astore_nN X (lv' := [(2, .null), (0, .ref 0), (1, .int (iI v1))]) dX7_top_5 (by decide) rfl ?_
    refine g_aload_nN X 0 dX7_top_6 rfl ?_
    refine g_ifnonnullN X dX7_top_7 ?_
    refine g_ldc2 X (z := (-9223372036854775808)) dX7_top_10 lc_X7_117 (by decide +kernel) ?_
    refine g_goto X (tgt := 20) dX7_top_13 (by decide) ?_
    exact g_lret X hr hlk dX7_top_20 ⟨_, rfl, (by omega), h⟩
  · skip
    refine g_astore_n X (lv' := [(2, .ref r2), (0, .ref 0), (1, .int (iI v1))]) dX7_top_5 (by decide) rfl ?_
    refine g_aload_n X 0 dX7_top_6 rfl ?_
    refine g_ifnonnull X (tgt := 16) dX7_top_7 (by decide) ?_
    refine g_aload_n X 0 dX7_top_16 rfl ?_
    refine g_getL X (z := 5) dX7_top_17 lf_X7_126 q3 rfl rfl ?_
    obtain ⟨q4, h⟩ := h
    exact g_lret X hr hlk dX7_top_20 ⟨_, rfl, q4, h⟩
theorem eX7_top {v1 : Int} {σ : ASt} {Q : Int → ASt → Prop}  (h : EvR 0 K_X7_baseAt [.ref 0, .int (iI v1)] σ (fun s1 => Q (-9223372036854775808) s1) (fun r2 s1 => i64 ((gL s1 r2 5)) ∧ Q (gL s1 r2 5) s1)) : EvL K_X7_top [.ref 0, .int (iI v1)] σ Q := Ev.of rfl (Nat.le_of_ble_eq_true rfl) rfl (bX7_top_0  h)
theorem bX7_undo_0 {σ : ASt} {Q : Int → ASt → Prop}  (h : i32 ((gI σ 0 8)) ∧ (((gI σ 0 8) ≠ 0 → EvV K_X7_carryState [.ref 2, .ref 4, .ref 1, .ref 3] σ (fun s3 => EvI K_X7_countReels [.ref 0] (sI s3 11 2 0) (fun x5 s4 => Q x5 s4))) ∧ ((gI σ 0 8) = 0 → Q (-3) σ))) : Wx K_X7_undo (QI Q) 0 [(0, .ref 0)] [] σ := by
  intro p l e s m args below meth c D cA ad X0 hr hlk
  have X : Cx p s m args c (adA ad) D cA ad RX7 cX7_undo 1 := X0
  refine g_aload_n X 0 dX7_undo_0 rfl ?_
  refine g_getI X (z := 8) dX7_undo_1 lf_X7_56 rfl rfl rfl ?_
  obtain ⟨q1, h⟩ := h
  refine g_if_ne X (tgt := 10) dX7_undo_4 (by decide) q1 (fun c2 => ?_) (fun c2 => ?_)
  · have h := h.1 c2
    refine g_aload_n X 0 dX7_undo_10 rfl ?_
    refine g_getF X (f := 2) dX7_undo_11 lf_X7_50 rfl rfl rfl ?_
    refine g_aload_n X 0 dX7_undo_14 rfl ?_
    refine g_getF X (f := 4) dX7_undo_15 lf_X7_53 rfl rfl rfl ?_
    refine g_aload_n X 0 dX7_undo_18 rfl ?_
    refine g_getF X (f := 1) dX7_undo_19 lf_X7_13 rfl rfl rfl ?_
    refine g_aload_n X 0 dX7_undo_22 rfl ?_
    refine g_getF X (f := 3) dX7_undo_23 lf_X7_19 rfl rfl rfl ?_
    refine g_cSV X (K := K_X7_carryState) [.ref 2, .ref 4, .ref 1, .ref 3] [] dX7_undo_26 ls_X7_284 rm_X7_undo_X7_carryState ⟨by decide, by decide⟩ adA_id rfl (Nat.le_of_ble_eq_true rfl) rfl h (fun s3 h => ?_)
    refine g_aload_n X 0 dX7_undo_29 rfl ?_
    refine g_getF X (f := 11) dX7_undo_30 lf_X7_39 rfl rfl rfl ?_
    refine g_iconst X dX7_undo_33 ?_
    refine g_putI X (j := 2) (z := 2) dX7_undo_34 lp_X7_246 rfl rfl rfl ?_
    refine g_aload_n X 0 dX7_undo_37 rfl ?_
    refine g_cVI X (K := K_X7_countReels) [] [] dX7_undo_38 lv_X7_288 rm_X7_undo_X7_countReels ⟨by decide, by decide⟩ adA_id rfl rfl rfl (Nat.le_of_ble_eq_true rfl) rfl h (fun x5 s4 q6 h => ?_)
    exact g_iret X hr hlk dX7_undo_41 rfl ⟨_, rfl, q6, h⟩
  · have h := h.2 c2
    refine g_bipush X dX7_undo_7 (by decide +kernel) ?_
    exact g_iret X hr hlk dX7_undo_9 rfl ⟨_, rfl, (by omega), h⟩
theorem eX7_undo {σ : ASt} {Q : Int → ASt → Prop}  (h : i32 ((gI σ 0 8)) ∧ (((gI σ 0 8) ≠ 0 → EvV K_X7_carryState [.ref 2, .ref 4, .ref 1, .ref 3] σ (fun s3 => EvI K_X7_countReels [.ref 0] (sI s3 11 2 0) (fun x5 s4 => Q x5 s4))) ∧ ((gI σ 0 8) = 0 → Q (-3) σ))) : EvI K_X7_undo [.ref 0] σ Q := Ev.of rfl (Nat.le_of_ble_eq_true rfl) rfl (bX7_undo_0  h)
theorem bX7_value_0 {v1 : Int} {σ : ASt} {Q : Int → ASt → Prop}  (h : EvR 4 K_X7_reelAt [.ref 0, .int (iI v1)] σ (fun s1 => Q (-9223372036854775808) s1) (fun r2 s1 => ((gP s1 r2 0 = none → Q (-9223372036854775808) s1) ∧ (∀ r4 : Nat, gP s1 r2 0 = some r4 → shp r4 = (0, 0, 0) ∧ EvL K_X0_valueOf [.ref r4, .ref (r2 + 12)] s1 (fun x8 s7 => Q x8 s7))))) : Wx K_X7_value (QL Q) 0 [(0, .ref 0), (1, .int (iI v1))] [] σ := by
  intro p l e s m args below meth c D cA ad X0 hr hlk
  have X : Cx p s m args c (adA ad) D cA ad RX7 cX7_value 4 := X0
  refine g_aload_n X 0 dX7_value_0 rfl ?_
  refine g_iload_n X 1 dX7_value_1 rfl ?_
  refine g_cVR X (K := K_X7_reelAt) [.int (iI v1)] [] dX7_value_2 lv_X7_87 rm_X7_value_X7_reelAt ⟨by decide, by decide⟩ adA_id rfl rfl rfl (Nat.le_of_ble_eq_true rfl) rfl h (fun s1 h => ?_) (fun r2 s1 q3 h => ?_)
  · skip
    refine g_astore_nN X (lv' := [(2, .null), (0, .ref 0), (1, .int (iI v1))]) dX7_value_5 (by decide) rfl ?_
    refine g_aload_nN X 0 dX7_value_6 rfl ?_
    refine g_ifnonnullN X dX7_value_7 ?_
    refine g_ldc2 X (z := (-9223372036854775808)) dX7_value_10 lc_X7_117 (by decide +kernel) ?_
    exact g_lret X hr hlk dX7_value_13 ⟨_, rfl, (by omega), h⟩
  · skip
    refine g_astore_n X (lv' := [(2, .ref r2), (0, .ref 0), (1, .int (iI v1))]) dX7_value_5 (by decide) rfl ?_
    refine g_aload_n X 0 dX7_value_6 rfl ?_
    refine g_ifnonnull X (tgt := 14) dX7_value_7 (by decide) ?_
    refine g_aload_n X 0 dX7_value_14 rfl ?_
    refine g_getP X dX7_value_15 lf_X7_91 q3 rfl (fun c5 => ?_) (fun r4 c5 => ?_)
    · have h := h.1 c5
      refine g_astore_nN X (lv' := [(3, .null), (2, .ref r2), (0, .ref 0), (1, .int (iI v1))]) dX7_value_18 (by decide) rfl ?_
      refine g_aload_nN X 0 dX7_value_19 rfl ?_
      refine g_ifnonnullN X dX7_value_20 ?_
      refine g_ldc2 X (z := (-9223372036854775808)) dX7_value_23 lc_X7_117 (by decide +kernel) ?_
      refine g_goto X (tgt := 37) dX7_value_26 (by decide) ?_
      exact g_lret X hr hlk dX7_value_37 ⟨_, rfl, (by omega), h⟩
    · obtain ⟨q6, h⟩ := h.2 r4 c5
      refine g_astore_n X (lv' := [(3, .ref r4), (2, .ref r2), (0, .ref 0), (1, .int (iI v1))]) dX7_value_18 (by decide) rfl ?_
      refine g_aload_n X 0 dX7_value_19 rfl ?_
      refine g_ifnonnull X (tgt := 29) dX7_value_20 (by decide) ?_
      refine g_aload_n X 0 dX7_value_29 rfl ?_
      refine g_aload_n X 1 dX7_value_30 rfl ?_
      refine g_getF X (f := (r2 + 12)) dX7_value_31 lf_X7_144 q3 rfl (fn_4_1 q3) ?_
      refine g_cVL X (K := K_X0_valueOf) [.ref (r2 + 12)] [] dX7_value_34 lv_X7_158 rm_X7_value_X0_valueOf ⟨by decide, by decide⟩ adA_id q6 rfl rfl (Nat.le_of_ble_eq_true rfl) rfl h (fun x8 s7 q9 h => ?_)
      exact g_lret X hr hlk dX7_value_37 ⟨_, rfl, q9, h⟩
theorem eX7_value {v1 : Int} {σ : ASt} {Q : Int → ASt → Prop}  (h : EvR 4 K_X7_reelAt [.ref 0, .int (iI v1)] σ (fun s1 => Q (-9223372036854775808) s1) (fun r2 s1 => ((gP s1 r2 0 = none → Q (-9223372036854775808) s1) ∧ (∀ r4 : Nat, gP s1 r2 0 = some r4 → shp r4 = (0, 0, 0) ∧ EvL K_X0_valueOf [.ref r4, .ref (r2 + 12)] s1 (fun x8 s7 => Q x8 s7))))) : EvL K_X7_value [.ref 0, .int (iI v1)] σ Q := Ev.of rfl (Nat.le_of_ble_eq_true rfl) rfl (bX7_value_0  h)
theorem bX7_ways_0 {v1 : Int} {v2 : Int} {v4 : Int} {v5 : Int} {σ : ASt} {Q : Int → ASt → Prop} (h32v5 : i32 v5) (h64v2 : i64 v2) (h : EvR 0 K_X7_baseAt [.ref 0, .int (iI v1)] σ (fun s1 => Q (-9223372036854775808) s1) (fun r2 s1 => ((v2 < 0 → Q (-9223372036854775808) s1) ∧ (0 ≤ v2 → ((1000000000 < v2 → Q (-9223372036854775808) s1) ∧ (v2 ≤ 1000000000 → EvZ K_X7_isWithin [.int (iI v4), .int (iI 1), .int (iI 9)] s1 (fun s6 => EvZ K_X7_isWithin [.int (iI v5), .int (iI 0), .int (iI 1)] s6 (fun s7 => EvR 5 K_X3_make [.ref 14, .ref r2, .long (lI v2), .int (iI v4)] s7 (fun s8 => False) (fun r9 s8 => i32 ((gI s8 r9 3)) ∧ (((gI s8 r9 3) ≠ 0 → ((v5 ≠ 0 → i32 ((gI s8 (r9 + 6) 0)) ∧ Q (gI s8 (r9 + 6) 0) s8) ∧ (v5 = 0 → Q (lI ((gL s8 (r9 + 4) 0))).toInt s8))) ∧ ((gI s8 r9 3) = 0 → ((v5 ≠ 0 → Q (-1) s8) ∧ (v5 = 0 → Q 0 s8)))))) (fun s7 => Q (-9223372036854775808) s7)) (fun s6 => Q (-9223372036854775808) s6))))))) : Wx K_X7_ways (QL Q) 0 [(0, .ref 0), (1, .int (iI v1)), (2, .long (lI v2)), (4, .int (iI v4)), (5, .int (iI v5))] [] σ := by
  intro p l e s m args below meth c D cA ad X0 hr hlk
  have X : Cx p s m args c (adA ad) D cA ad RX7 cX7_ways 8 := X0
  refine g_aload_n X 0 dX7_ways_0 rfl ?_
  refine g_iload_n X 1 dX7_ways_1 rfl ?_
  refine g_cVR X (K := K_X7_baseAt) [.int (iI v1)] [] dX7_ways_2 lv_X7_75 rm_X7_ways_X7_baseAt ⟨by decide, by decide⟩ adA_id rfl rfl rfl (Nat.le_of_ble_eq_true rfl) rfl h (fun s1 h => ?_) (fun r2 s1 q3 h => ?_)
  · skip
    refine g_astoreN X (lv' := [(6, .null), (0, .ref 0), (1, .int (iI v1)), (2, .long (lI v2)), (4, .int (iI v4)), (5, .int (iI v5))]) dX7_ways_5 (by decide) rfl ?_
    refine g_aloadN X 0 dX7_ways_7 rfl ?_
    refine g_ifnullN X (tgt := 47) dX7_ways_9 (by decide) ?_
    refine g_ldc2 X (z := (-9223372036854775808)) dX7_ways_47 lc_X7_117 (by decide +kernel) ?_
    exact g_lret X hr hlk dX7_ways_50 ⟨_, rfl, (by omega), h⟩
  · skip
    refine g_astore X (lv' := [(6, .ref r2), (0, .ref 0), (1, .int (iI v1)), (2, .long (lI v2)), (4, .int (iI v4)), (5, .int (iI v5))]) dX7_ways_5 (by decide) rfl ?_
    refine g_aload X 0 dX7_ways_7 rfl ?_
    refine g_ifnull X dX7_ways_9 ?_
    refine g_lload_n X 3 dX7_ways_12 rfl ?_
    refine g_lconst X (z := 0) dX7_ways_13 (by decide +kernel) ?_
    refine g_lc_lt X (tgt := 47) dX7_ways_14 dX7_ways_15 (by decide) h64v2 (by omega) (fun c4 => ?_) (fun c4 => ?_)
    · have h := h.1 c4
      refine g_ldc2 X (z := (-9223372036854775808)) dX7_ways_47 lc_X7_117 (by decide +kernel) ?_
      exact g_lret X hr hlk dX7_ways_50 ⟨_, rfl, (by omega), h⟩
    · have h := h.2 c4
      refine g_lload_n X 3 dX7_ways_18 rfl ?_
      refine g_ldc2 X (z := 1000000000) dX7_ways_19 lc_X7_213 (by decide +kernel) ?_
      refine g_lc_gt X (tgt := 47) dX7_ways_22 dX7_ways_23 (by decide) h64v2 (by omega) (fun c5 => ?_) (fun c5 => ?_)
      · have h := h.1 c5
        refine g_ldc2 X (z := (-9223372036854775808)) dX7_ways_47 lc_X7_117 (by decide +kernel) ?_
        exact g_lret X hr hlk dX7_ways_50 ⟨_, rfl, (by omega), h⟩
      · have h := h.2 c5
        refine g_iload X 4 dX7_ways_26 rfl ?_
        refine g_iconst X dX7_ways_28 ?_
        refine g_bipush X dX7_ways_29 (by decide +kernel) ?_
        refine g_cSZ X (K := K_X7_isWithin) [.int (iI v4), .int (iI 1), .int (iI 9)] [] dX7_ways_31 ls_X7_102 rm_X7_ways_X7_isWithin ⟨by decide, by decide⟩ adA_id rfl (Nat.le_of_ble_eq_true rfl) rfl h (fun s6 h => ?_) (fun s6 h => ?_)
        · skip
          refine g_if_eq X (tgt := 47) dX7_ways_34 (by decide) (by omega) (fun hc => absurd hc (by decide)) (fun _ => ?_)
          refine g_iload X 5 dX7_ways_37 rfl ?_
          refine g_iconst X dX7_ways_39 ?_
          refine g_iconst X dX7_ways_40 ?_
          refine g_cSZ X (K := K_X7_isWithin) [.int (iI v5), .int (iI 0), .int (iI 1)] [] dX7_ways_41 ls_X7_102 rm_X7_ways_X7_isWithin ⟨by decide, by decide⟩ adA_id rfl (Nat.le_of_ble_eq_true rfl) rfl h (fun s7 h => ?_) (fun s7 h => ?_)
          · skip
            refine g_if_ne X (tgt := 51) dX7_ways_44 (by decide) (by omega) (fun _ => ?_) (fun hc => absurd hc (by decide))
            refine g_aload_n X 1 dX7_ways_51 rfl ?_
            refine g_getF X (f := 14) dX7_ways_52 lf_X7_46 rfl rfl rfl ?_
            refine g_aload X 0 dX7_ways_55 rfl ?_
            refine g_lload_n X 3 dX7_ways_57 rfl ?_
            refine g_iload X 4 dX7_ways_58 rfl ?_
            refine g_cVR X (K := K_X3_make) [.ref r2, .long (lI v2), .int (iI v4)] [] dX7_ways_60 lv_X7_215 rm_X7_ways_X3_make ⟨by decide, by decide⟩ adA_id rfl rfl rfl (Nat.le_of_ble_eq_true rfl) rfl h (fun s8 h => ?_) (fun r9 s8 q10 h => ?_)
            · skip
              refine g_astoreN X (lv' := [(7, .null), (6, .ref r2), (0, .ref 0), (1, .int (iI v1)), (2, .long (lI v2)), (4, .int (iI v4)), (5, .int (iI v5))]) dX7_ways_63 (by decide) rfl ?_
              refine g_aloadN X 0 dX7_ways_65 rfl ?_
              exact h.elim
            · skip
              refine g_astore X (lv' := [(7, .ref r9), (6, .ref r2), (0, .ref 0), (1, .int (iI v1)), (2, .long (lI v2)), (4, .int (iI v4)), (5, .int (iI v5))]) dX7_ways_63 (by decide) rfl ?_
              refine g_aload X 0 dX7_ways_65 rfl ?_
              refine g_getI X (z := 3) dX7_ways_67 lf_X7_219 q10 rfl rfl ?_
              obtain ⟨q11, h⟩ := h
              refine g_if_ne X (tgt := 86) dX7_ways_70 (by decide) q11 (fun c12 => ?_) (fun c12 => ?_)
              · have h := h.1 c12
                refine g_iload X 6 dX7_ways_86 rfl ?_
                refine g_if_ne X (tgt := 101) dX7_ways_88 (by decide) h32v5 (fun c13 => ?_) (fun c13 => ?_)
                · have h := h.1 c13
                  refine g_aload X 0 dX7_ways_101 rfl ?_
                  refine g_getF X (f := (r9 + 6)) dX7_ways_103 lf_X7_229 q10 rfl (fn_5_2 q10) ?_
                  refine g_iconst X dX7_ways_106 ?_
                  refine g_iald X dX7_ways_107 (sf_5_2 q10) (by omega) (by omega) ?_
                  obtain ⟨q14, h⟩ := h
                  refine g_i2l X dX7_ways_108 q14 ?_
                  exact g_lret X hr hlk dX7_ways_109 ⟨_, rfl, (by have := q14; omega), h⟩
                · have h := h.2 c13
                  refine g_aload X 0 dX7_ways_91 rfl ?_
                  refine g_getF X (f := (r9 + 4)) dX7_ways_93 lf_X7_226 q10 rfl (fn_5_1 q10) ?_
                  refine g_iconst X dX7_ways_96 ?_
                  refine g_lald X dX7_ways_97 (sf_5_1 q10) (by omega) (by omega) ?_
                  refine g_goto X (tgt := 109) dX7_ways_98 (by decide) ?_
                  exact g_lret X hr hlk dX7_ways_109 ⟨(lI ((gL s8 (r9 + 4) 0))).toInt, by rw [lI_of], i64_of _, h⟩
              · have h := h.2 c12
                refine g_iload X 6 dX7_ways_73 rfl ?_
                refine g_if_ne X (tgt := 82) dX7_ways_75 (by decide) h32v5 (fun c15 => ?_) (fun c15 => ?_)
                · have h := h.1 c15
                  refine g_ldc2 X (z := (-1)) dX7_ways_82 lc_X7_224 (by decide +kernel) ?_
                  exact g_lret X hr hlk dX7_ways_85 ⟨_, rfl, (by omega), h⟩
                · have h := h.2 c15
                  refine g_lconst X (z := 0) dX7_ways_78 (by decide +kernel) ?_
                  refine g_goto X (tgt := 85) dX7_ways_79 (by decide) ?_
                  exact g_lret X hr hlk dX7_ways_85 ⟨_, rfl, (by omega), h⟩
          · skip
            refine g_if_ne X (tgt := 51) dX7_ways_44 (by decide) (by omega) (fun hc => absurd hc (by decide)) (fun _ => ?_)
            refine g_ldc2 X (z := (-9223372036854775808)) dX7_ways_47 lc_X7_117 (by decide +kernel) ?_
            exact g_lret X hr hlk dX7_ways_50 ⟨_, rfl, (by omega), h⟩
        · skip
          refine g_if_eq X (tgt := 47) dX7_ways_34 (by decide) (by omega) (fun _ => ?_) (fun hc => absurd hc (by decide))
          refine g_ldc2 X (z := (-9223372036854775808)) dX7_ways_47 lc_X7_117 (by decide +kernel) ?_
          exact g_lret X hr hlk dX7_ways_50 ⟨_, rfl, (by omega), h⟩
theorem eX7_ways {v1 : Int} {v2 : Int} {v4 : Int} {v5 : Int} {σ : ASt} {Q : Int → ASt → Prop} (h32v5 : i32 v5) (h64v2 : i64 v2) (h : EvR 0 K_X7_baseAt [.ref 0, .int (iI v1)] σ (fun s1 => Q (-9223372036854775808) s1) (fun r2 s1 => ((v2 < 0 → Q (-9223372036854775808) s1) ∧ (0 ≤ v2 → ((1000000000 < v2 → Q (-9223372036854775808) s1) ∧ (v2 ≤ 1000000000 → EvZ K_X7_isWithin [.int (iI v4), .int (iI 1), .int (iI 9)] s1 (fun s6 => EvZ K_X7_isWithin [.int (iI v5), .int (iI 0), .int (iI 1)] s6 (fun s7 => EvR 5 K_X3_make [.ref 14, .ref r2, .long (lI v2), .int (iI v4)] s7 (fun s8 => False) (fun r9 s8 => i32 ((gI s8 r9 3)) ∧ (((gI s8 r9 3) ≠ 0 → ((v5 ≠ 0 → i32 ((gI s8 (r9 + 6) 0)) ∧ Q (gI s8 (r9 + 6) 0) s8) ∧ (v5 = 0 → Q (lI ((gL s8 (r9 + 4) 0))).toInt s8))) ∧ ((gI s8 r9 3) = 0 → ((v5 ≠ 0 → Q (-1) s8) ∧ (v5 = 0 → Q 0 s8)))))) (fun s7 => Q (-9223372036854775808) s7)) (fun s6 => Q (-9223372036854775808) s6))))))) : EvL K_X7_ways [.ref 0, .int (iI v1), .long (lI v2), .int (iI v4), .int (iI v5)] σ Q := Ev.of rfl (Nat.le_of_ble_eq_true rfl) rfl (bX7_ways_0 h32v5 h64v2 h)
theorem bX7_worth_0 {v1 : Int} {v2 : Int} {v3 : Int} {σ : ASt} {Q : Int → ASt → Prop} (h32v3 : i32 v3) (h : EvR 0 K_X7_baseAt [.ref 0, .int (iI v1)] σ (fun s1 => Q (-9223372036854775808) s1) (fun r2 s1 => EvZ K_X0_hasPlace [.ref r2, .int (iI v2)] s1 (fun s4 => EvZ K_X7_isWithin [.int (iI v3), .int (iI 0), .int (iI 1)] s4 (fun s5 => ((v3 ≠ 0 → ((0 : Int) ≤ v2 ∧ v2 < 43) ∧ i32 ((gI s5 (r2 + 6) v2)) ∧ Q (gI s5 (r2 + 6) v2) s5) ∧ (v3 = 0 → ((0 : Int) ≤ v2 ∧ v2 < 43) ∧ i64 ((gL s5 (r2 + 12) v2)) ∧ Q (gL s5 (r2 + 12) v2) s5))) (fun s5 => Q (-9223372036854775808) s5)) (fun s4 => Q (-9223372036854775808) s4))) : Wx K_X7_worth (QL Q) 0 [(0, .ref 0), (1, .int (iI v1)), (2, .int (iI v2)), (3, .int (iI v3))] [] σ := by
  intro p l e s m args below meth c D cA ad X0 hr hlk
  have X : Cx p s m args c (adA ad) D cA ad RX7 cX7_worth 5 := X0
  refine g_aload_n X 0 dX7_worth_0 rfl ?_
  refine g_iload_n X 1 dX7_worth_1 rfl ?_
  refine g_cVR X (K := K_X7_baseAt) [.int (iI v1)] [] dX7_worth_2 lv_X7_75 rm_X7_worth_X7_baseAt ⟨by decide, by decide⟩ adA_id rfl rfl rfl (Nat.le_of_ble_eq_true rfl) rfl h (fun s1 h => ?_) (fun r2 s1 q3 h => ?_)
  · skip
    refine g_astoreN X (lv' := [(4, .null), (0, .ref 0), (1, .int (iI v1)), (2, .int (iI v2)), (3, .int (iI v3))]) dX7_worth_5 (by decide) rfl ?_
    refine g_aloadN X 0 dX7_worth_7 rfl ?_
    refine g_ifnullN X (tgt := 30) dX7_worth_9 (by decide) ?_
    refine g_ldc2 X (z := (-9223372036854775808)) dX7_worth_30 lc_X7_117 (by decide +kernel) ?_
    exact g_lret X hr hlk dX7_worth_33 ⟨_, rfl, (by omega), h⟩
  · skip
    refine g_astore X (lv' := [(4, .ref r2), (0, .ref 0), (1, .int (iI v1)), (2, .int (iI v2)), (3, .int (iI v3))]) dX7_worth_5 (by decide) rfl ?_
    refine g_aload X 0 dX7_worth_7 rfl ?_
    refine g_ifnull X dX7_worth_9 ?_
    refine g_aload X 0 dX7_worth_12 rfl ?_
    refine g_iload_n X 3 dX7_worth_14 rfl ?_
    refine g_cVZ X (K := K_X0_hasPlace) [.int (iI v2)] [] dX7_worth_15 lv_X7_113 rm_X7_worth_X0_hasPlace ⟨by decide, by decide⟩ adA_id q3 rfl rfl (Nat.le_of_ble_eq_true rfl) rfl h (fun s4 h => ?_) (fun s4 h => ?_)
    · skip
      refine g_if_eq X (tgt := 30) dX7_worth_18 (by decide) (by omega) (fun hc => absurd hc (by decide)) (fun _ => ?_)
      refine g_iload_n X 4 dX7_worth_21 rfl ?_
      refine g_iconst X dX7_worth_22 ?_
      refine g_iconst X dX7_worth_23 ?_
      refine g_cSZ X (K := K_X7_isWithin) [.int (iI v3), .int (iI 0), .int (iI 1)] [] dX7_worth_24 ls_X7_102 rm_X7_worth_X7_isWithin ⟨by decide, by decide⟩ adA_id rfl (Nat.le_of_ble_eq_true rfl) rfl h (fun s5 h => ?_) (fun s5 h => ?_)
      · skip
        refine g_if_ne X (tgt := 34) dX7_worth_27 (by decide) (by omega) (fun _ => ?_) (fun hc => absurd hc (by decide))
        refine g_iload_n X 4 dX7_worth_34 rfl ?_
        refine g_if_ne X (tgt := 48) dX7_worth_35 (by decide) h32v3 (fun c6 => ?_) (fun c6 => ?_)
        · have h := h.1 c6
          refine g_aload X 0 dX7_worth_48 rfl ?_
          refine g_getF X (f := (r2 + 6)) dX7_worth_50 lf_X7_123 q3 rfl (fn_0_1 q3) ?_
          refine g_iload_n X 3 dX7_worth_53 rfl ?_
          obtain ⟨q7, h⟩ := h
          refine g_iald X dX7_worth_54 (sf_0_1 q3) q7.1 q7.2 ?_
          obtain ⟨q8, h⟩ := h
          refine g_i2l X dX7_worth_55 q8 ?_
          exact g_lret X hr hlk dX7_worth_56 ⟨_, rfl, (by have := q8; omega), h⟩
        · have h := h.2 c6
          refine g_aload X 0 dX7_worth_38 rfl ?_
          refine g_getF X (f := (r2 + 12)) dX7_worth_40 lf_X7_119 q3 rfl (fn_0_2 q3) ?_
          refine g_iload_n X 3 dX7_worth_43 rfl ?_
          obtain ⟨q9, h⟩ := h
          refine g_lald X dX7_worth_44 (sf_0_2 q3) q9.1 q9.2 ?_
          refine g_goto X (tgt := 56) dX7_worth_45 (by decide) ?_
          obtain ⟨q10, h⟩ := h
          exact g_lret X hr hlk dX7_worth_56 ⟨_, rfl, q10, h⟩
      · skip
        refine g_if_ne X (tgt := 34) dX7_worth_27 (by decide) (by omega) (fun hc => absurd hc (by decide)) (fun _ => ?_)
        refine g_ldc2 X (z := (-9223372036854775808)) dX7_worth_30 lc_X7_117 (by decide +kernel) ?_
        exact g_lret X hr hlk dX7_worth_33 ⟨_, rfl, (by omega), h⟩
    · skip
      refine g_if_eq X (tgt := 30) dX7_worth_18 (by decide) (by omega) (fun _ => ?_) (fun hc => absurd hc (by decide))
      refine g_ldc2 X (z := (-9223372036854775808)) dX7_worth_30 lc_X7_117 (by decide +kernel) ?_
      exact g_lret X hr hlk dX7_worth_33 ⟨_, rfl, (by omega), h⟩
theorem eX7_worth {v1 : Int} {v2 : Int} {v3 : Int} {σ : ASt} {Q : Int → ASt → Prop} (h32v3 : i32 v3) (h : EvR 0 K_X7_baseAt [.ref 0, .int (iI v1)] σ (fun s1 => Q (-9223372036854775808) s1) (fun r2 s1 => EvZ K_X0_hasPlace [.ref r2, .int (iI v2)] s1 (fun s4 => EvZ K_X7_isWithin [.int (iI v3), .int (iI 0), .int (iI 1)] s4 (fun s5 => ((v3 ≠ 0 → ((0 : Int) ≤ v2 ∧ v2 < 43) ∧ i32 ((gI s5 (r2 + 6) v2)) ∧ Q (gI s5 (r2 + 6) v2) s5) ∧ (v3 = 0 → ((0 : Int) ≤ v2 ∧ v2 < 43) ∧ i64 ((gL s5 (r2 + 12) v2)) ∧ Q (gL s5 (r2 + 12) v2) s5))) (fun s5 => Q (-9223372036854775808) s5)) (fun s4 => Q (-9223372036854775808) s4))) : EvL K_X7_worth [.ref 0, .int (iI v1), .int (iI v2), .int (iI v3)] σ Q := Ev.of rfl (Nat.le_of_ble_eq_true rfl) rfl (bX7_worth_0 h32v3 h)
