/-! by program: the block rules of class 8, part 0 -/
theorem bX8_in_0 {v0 : Int} {v2 : Int} {v4 : Int} {σ : ASt} {QT QF : ASt → Prop} (h64v0 : i64 v0) (h64v2 : i64 v2) (h64v4 : i64 v4) (h : ((v0 < v2 → QF σ) ∧ (v2 ≤ v0 → ((v4 < v0 → QF σ) ∧ (v0 ≤ v4 → QT σ))))) : Wx K_X8_in (QZ QT QF) 0 [(0, .long (lI v0)), (2, .long (lI v2)), (4, .long (lI v4))] [] σ := by
  intro p l e s m args below meth c D cA ad X0 hr hlk
  have X : Cx p s m args c (adA ad) D cA ad RX8 cX8_in 6 := X0
  refine g_lload_n X 0 dX8_in_0 rfl ?_
  refine g_lload_n X 1 dX8_in_1 rfl ?_
  refine g_lc_lt X (tgt := 17) dX8_in_2 dX8_in_3 (by decide) h64v0 h64v2 (fun c1 => ?_) (fun c1 => ?_)
  · have h := h.1 c1
    refine g_iconst X dX8_in_17 ?_
    exact g_iret X hr hlk dX8_in_18 rfl (Or.inr ⟨rfl, h⟩)
  · have h := h.2 c1
    refine g_lload_n X 0 dX8_in_6 rfl ?_
    refine g_lload X 2 dX8_in_7 rfl ?_
    refine g_lc_gt X (tgt := 17) dX8_in_9 dX8_in_10 (by decide) h64v0 h64v4 (fun c2 => ?_) (fun c2 => ?_)
    · have h := h.1 c2
      refine g_iconst X dX8_in_17 ?_
      exact g_iret X hr hlk dX8_in_18 rfl (Or.inr ⟨rfl, h⟩)
    · have h := h.2 c2
      refine g_iconst X dX8_in_13 ?_
      refine g_goto X (tgt := 18) dX8_in_14 (by decide) ?_
      exact g_iret X hr hlk dX8_in_18 rfl (Or.inl ⟨rfl, h⟩)
theorem eX8_in {v0 : Int} {v2 : Int} {v4 : Int} {σ : ASt} {QT QF : ASt → Prop} (h64v0 : i64 v0) (h64v2 : i64 v2) (h64v4 : i64 v4) (h : ((v0 < v2 → QF σ) ∧ (v2 ≤ v0 → ((v4 < v0 → QF σ) ∧ (v0 ≤ v4 → QT σ))))) : EvZ K_X8_in [.long (lI v0), .long (lI v2), .long (lI v4)] σ QT QF := Ev.of rfl (Nat.le_of_ble_eq_true rfl) rfl (bX8_in_0 h64v0 h64v2 h64v4 h)
theorem bX8_isReel_0 {v0 : Int} {σ : ASt} {QT QF : ASt → Prop} (h32v0 : i32 v0) (h : EvZ K_X8_in [.long (lI v0), .long (lI 0), .long (lI 5)] σ (fun s1 => QT s1) (fun s1 => QF s1)) : Wx K_X8_isReel (QZ QT QF) 0 [(0, .int (iI v0))] [] σ := by
  intro p l e s m args below meth c D cA ad X0 hr hlk
  have X : Cx p s m args c (adA ad) D cA ad RX8 cX8_isReel 1 := X0
  refine g_iload_n X 0 dX8_isReel_0 rfl ?_
  refine g_i2l X dX8_isReel_1 h32v0 ?_
  refine g_lconst X (z := 0) dX8_isReel_2 (by decide +kernel) ?_
  refine g_ldc2 X (z := 5) dX8_isReel_3 lc_X8_135 (by decide +kernel) ?_
  refine g_cSZ X (K := K_X8_in) [.long (lI v0), .long (lI 0), .long (lI 5)] [] dX8_isReel_6 ls_X8_104 rm_X8_isReel_X8_in ⟨by decide, by decide⟩ adA_id rfl (Nat.le_of_ble_eq_true rfl) rfl h (fun s1 h => ?_) (fun s1 h => ?_)
  · skip
    exact g_iret X hr hlk dX8_isReel_9 rfl (Or.inl ⟨rfl, h⟩)
  · skip
    exact g_iret X hr hlk dX8_isReel_9 rfl (Or.inr ⟨rfl, h⟩)
theorem eX8_isReel {v0 : Int} {σ : ASt} {QT QF : ASt → Prop} (h32v0 : i32 v0) (h : EvZ K_X8_in [.long (lI v0), .long (lI 0), .long (lI 5)] σ (fun s1 => QT s1) (fun s1 => QF s1)) : EvZ K_X8_isReel [.int (iI v0)] σ QT QF := Ev.of rfl (Nat.le_of_ble_eq_true rfl) rfl (bX8_isReel_0 h32v0 h)
theorem bX8_isEmpty_0 {v1 : Int} {σ : ASt} {QT QF : ASt → Prop}  (h : ((0 : Int) ≤ v1 ∧ v1 < 6) ∧ i32 ((gI σ 78 v1)) ∧ (((gI σ 78 v1) ≠ (-1) → QF σ) ∧ ((gI σ 78 v1) = (-1) → QT σ))) : Wx K_X8_isEmpty (QZ QT QF) 0 [(0, .ref 72), (1, .int (iI v1))] [] σ := by
  intro p l e s m args below meth c D cA ad X0 hr hlk
  have X : Cx p s m args c (adA ad) D cA ad RX8 cX8_isEmpty 2 := X0
  refine g_aload_n X 0 dX8_isEmpty_0 rfl ?_
  refine g_getF X (f := 78) dX8_isEmpty_1 lf_X8_28 rfl rfl rfl ?_
  refine g_iload_n X 1 dX8_isEmpty_4 rfl ?_
  obtain ⟨q1, h⟩ := h
  refine g_iald X dX8_isEmpty_5 rfl q1.1 q1.2 ?_
  refine g_iconst X dX8_isEmpty_6 ?_
  obtain ⟨q2, h⟩ := h
  refine g_icmp_ne X (tgt := 14) dX8_isEmpty_7 (by decide) q2 (by omega) (fun c3 => ?_) (fun c3 => ?_)
  · have h := h.1 c3
    refine g_iconst X dX8_isEmpty_14 ?_
    exact g_iret X hr hlk dX8_isEmpty_15 rfl (Or.inr ⟨rfl, h⟩)
  · have h := h.2 c3
    refine g_iconst X dX8_isEmpty_10 ?_
    refine g_goto X (tgt := 15) dX8_isEmpty_11 (by decide) ?_
    exact g_iret X hr hlk dX8_isEmpty_15 rfl (Or.inl ⟨rfl, h⟩)
theorem eX8_isEmpty {v1 : Int} {σ : ASt} {QT QF : ASt → Prop}  (h : ((0 : Int) ≤ v1 ∧ v1 < 6) ∧ i32 ((gI σ 78 v1)) ∧ (((gI σ 78 v1) ≠ (-1) → QF σ) ∧ ((gI σ 78 v1) = (-1) → QT σ))) : EvZ K_X8_isEmpty [.ref 72, .int (iI v1)] σ QT QF := Ev.of rfl (Nat.le_of_ble_eq_true rfl) rfl (bX8_isEmpty_0  h)
theorem bX8_refusal_0 {v1 : Int} {σ : ASt} {Q : Int → ASt → Prop}  (h : EvZ K_X8_isReel [.int (iI v1)] σ (fun s1 => EvZ K_X8_isEmpty [.ref 72, .int (iI v1)] s1 (fun s2 => Q (-11) s2) (fun s2 => Q 0 s2)) (fun s1 => Q (-2) s1)) : Wx K_X8_refusal (QI Q) 0 [(0, .ref 72), (1, .int (iI v1))] [] σ := by
  intro p l e s m args below meth c D cA ad X0 hr hlk
  have X : Cx p s m args c (adA ad) D cA ad RX8 cX8_refusal 2 := X0
  refine g_iload_n X 1 dX8_refusal_0 rfl ?_
  refine g_cSZ X (K := K_X8_isReel) [.int (iI v1)] [] dX8_refusal_1 ls_X8_149 rm_X8_refusal_X8_isReel ⟨by decide, by decide⟩ adA_id rfl (Nat.le_of_ble_eq_true rfl) rfl h (fun s1 h => ?_) (fun s1 h => ?_)
  · skip
    refine g_if_ne X (tgt := 12) dX8_refusal_4 (by decide) (by omega) (fun _ => ?_) (fun hc => absurd hc (by decide))
    refine g_aload_n X 0 dX8_refusal_12 rfl ?_
    refine g_iload_n X 1 dX8_refusal_13 rfl ?_
    refine g_cVZ X (K := K_X8_isEmpty) [.int (iI v1)] [] dX8_refusal_14 lv_X8_159 rm_X8_refusal_X8_isEmpty ⟨by decide, by decide⟩ adA_id rfl rfl rfl (Nat.le_of_ble_eq_true rfl) rfl h (fun s2 h => ?_) (fun s2 h => ?_)
    · skip
      refine g_if_eq X (tgt := 25) dX8_refusal_17 (by decide) (by omega) (fun hc => absurd hc (by decide)) (fun _ => ?_)
      refine g_bipush X dX8_refusal_20 (by decide +kernel) ?_
      refine g_goto X (tgt := 26) dX8_refusal_22 (by decide) ?_
      exact g_iret X hr hlk dX8_refusal_26 rfl ⟨_, rfl, (by omega), h⟩
    · skip
      refine g_if_eq X (tgt := 25) dX8_refusal_17 (by decide) (by omega) (fun _ => ?_) (fun hc => absurd hc (by decide))
      refine g_iconst X dX8_refusal_25 ?_
      exact g_iret X hr hlk dX8_refusal_26 rfl ⟨_, rfl, (by omega), h⟩
  · skip
    refine g_if_ne X (tgt := 12) dX8_refusal_4 (by decide) (by omega) (fun hc => absurd hc (by decide)) (fun _ => ?_)
    refine g_bipush X dX8_refusal_7 (by decide +kernel) ?_
    refine g_goto X (tgt := 26) dX8_refusal_9 (by decide) ?_
    exact g_iret X hr hlk dX8_refusal_26 rfl ⟨_, rfl, (by omega), h⟩
theorem eX8_refusal {v1 : Int} {σ : ASt} {Q : Int → ASt → Prop}  (h : EvZ K_X8_isReel [.int (iI v1)] σ (fun s1 => EvZ K_X8_isEmpty [.ref 72, .int (iI v1)] s1 (fun s2 => Q (-11) s2) (fun s2 => Q 0 s2)) (fun s1 => Q (-2) s1)) : EvI K_X8_refusal [.ref 72, .int (iI v1)] σ Q := Ev.of rfl (Nat.le_of_ble_eq_true rfl) rfl (bX8_refusal_0  h)
theorem bX8_high_0 {v1 : Int} {σ : ASt} {Q : Int → ASt → Prop}  (h : ((0 : Int) ≤ v1 ∧ v1 < 6) ∧ ((0 : Int) ≤ (gI σ 78 v1) ∧ (gI σ 78 v1) < 3) ∧ i32 ((gI σ 75 (gI σ 78 v1))) ∧ Q (gI σ 75 (gI σ 78 v1)) σ) : Wx K_X8_high (QI Q) 0 [(0, .ref 72), (1, .int (iI v1))] [] σ := by
  intro p l e s m args below meth c D cA ad X0 hr hlk
  have X : Cx p s m args c (adA ad) D cA ad RX8 cX8_high 2 := X0
  refine g_aload_n X 0 dX8_high_0 rfl ?_
  refine g_getF X (f := 75) dX8_high_1 lf_X8_18 rfl rfl rfl ?_
  refine g_aload_n X 0 dX8_high_4 rfl ?_
  refine g_getF X (f := 78) dX8_high_5 lf_X8_28 rfl rfl rfl ?_
  refine g_iload_n X 1 dX8_high_8 rfl ?_
  obtain ⟨q1, h⟩ := h
  refine g_iald X dX8_high_9 rfl q1.1 q1.2 ?_
  obtain ⟨q2, h⟩ := h
  refine g_iald X dX8_high_10 rfl q2.1 q2.2 ?_
  obtain ⟨q3, h⟩ := h
  exact g_iret X hr hlk dX8_high_11 rfl ⟨_, rfl, q3, h⟩
theorem eX8_high {v1 : Int} {σ : ASt} {Q : Int → ASt → Prop}  (h : ((0 : Int) ≤ v1 ∧ v1 < 6) ∧ ((0 : Int) ≤ (gI σ 78 v1) ∧ (gI σ 78 v1) < 3) ∧ i32 ((gI σ 75 (gI σ 78 v1))) ∧ Q (gI σ 75 (gI σ 78 v1)) σ) : EvI K_X8_high [.ref 72, .int (iI v1)] σ Q := Ev.of rfl (Nat.le_of_ble_eq_true rfl) rfl (bX8_high_0  h)
theorem bX8_refusal__0 {v1 : Int} {v2 : Int} {v3 : Int} {σ : ASt} {Q : Int → ASt → Prop} (h32v2 : i32 v2) (h : EvI K_X8_refusal [.ref 72, .int (iI v1)] σ (fun x2 s1 => ((x2 = 0 → EvI K_X8_high [.ref 72, .int (iI v1)] s1 (fun x6 s5 => i32 ((x6 - v3)) ∧ EvZ K_X8_in [.long (lI v2), .long (lI 0), .long (lI (x6 - v3))] s5 (fun s9 => Q 0 s9) (fun s9 => Q (-12) s9))) ∧ (x2 ≠ 0 → Q x2 s1)))) : Wx K_X8_refusal_ (QI Q) 0 [(0, .ref 72), (1, .int (iI v1)), (2, .int (iI v2)), (3, .int (iI v3))] [] σ := by
  intro p l e s m args below meth c D cA ad X0 hr hlk
  have X : Cx p s m args c (adA ad) D cA ad RX8 cX8_refusal_ 5 := X0
  refine g_aload_n X 0 dX8_refusal__0 rfl ?_
  refine g_iload_n X 1 dX8_refusal__1 rfl ?_
  refine g_cVI X (K := K_X8_refusal) [.int (iI v1)] [] dX8_refusal__2 lv_X8_162 rm_X8_refusal__X8_refusal ⟨by decide, by decide⟩ adA_id rfl rfl rfl (Nat.le_of_ble_eq_true rfl) rfl h (fun x2 s1 q3 h => ?_)
  refine g_istore X (lv' := [(4, .int (iI x2)), (0, .ref 72), (1, .int (iI v1)), (2, .int (iI v2)), (3, .int (iI v3))]) dX8_refusal__5 (by decide) rfl ?_
  refine g_iload X 0 dX8_refusal__7 rfl ?_
  refine g_if_eq X (tgt := 17) dX8_refusal__9 (by decide) q3 (fun c4 => ?_) (fun c4 => ?_)
  · have h := h.1 c4
    refine g_iload_n X 3 dX8_refusal__17 rfl ?_
    refine g_i2l X dX8_refusal__18 h32v2 ?_
    refine g_lconst X (z := 0) dX8_refusal__19 (by decide +kernel) ?_
    refine g_aload_n X 1 dX8_refusal__20 rfl ?_
    refine g_iload_n X 2 dX8_refusal__21 rfl ?_
    refine g_cVI X (K := K_X8_high) [.int (iI v1)] [.long (lI 0), .long (lI v2)] dX8_refusal__22 lv_X8_137 rm_X8_refusal__X8_high ⟨by decide, by decide⟩ adA_id rfl rfl rfl (Nat.le_of_ble_eq_true rfl) rfl h (fun x6 s5 q7 h => ?_)
    refine g_iload_n X 4 dX8_refusal__25 rfl ?_
    refine g_isub X dX8_refusal__26 ?_
    obtain ⟨q8, h⟩ := h
    refine g_i2l X dX8_refusal__27 q8 ?_
    refine g_cSZ X (K := K_X8_in) [.long (lI v2), .long (lI 0), .long (lI (x6 - v3))] [] dX8_refusal__28 ls_X8_104 rm_X8_refusal__X8_in ⟨by decide, by decide⟩ adA_id rfl (Nat.le_of_ble_eq_true rfl) rfl h (fun s9 h => ?_) (fun s9 h => ?_)
    · skip
      refine g_if_eq X (tgt := 38) dX8_refusal__31 (by decide) (by omega) (fun hc => absurd hc (by decide)) (fun _ => ?_)
      refine g_iconst X dX8_refusal__34 ?_
      refine g_goto X (tgt := 40) dX8_refusal__35 (by decide) ?_
      exact g_iret X hr hlk dX8_refusal__40 rfl ⟨_, rfl, (by omega), h⟩
    · skip
      refine g_if_eq X (tgt := 38) dX8_refusal__31 (by decide) (by omega) (fun _ => ?_) (fun hc => absurd hc (by decide))
      refine g_bipush X dX8_refusal__38 (by decide +kernel) ?_
      exact g_iret X hr hlk dX8_refusal__40 rfl ⟨_, rfl, (by omega), h⟩
  · have h := h.2 c4
    refine g_iload X 0 dX8_refusal__12 rfl ?_
    refine g_goto X (tgt := 40) dX8_refusal__14 (by decide) ?_
    exact g_iret X hr hlk dX8_refusal__40 rfl ⟨_, rfl, q3, h⟩
theorem eX8_refusal_ {v1 : Int} {v2 : Int} {v3 : Int} {σ : ASt} {Q : Int → ASt → Prop} (h32v2 : i32 v2) (h : EvI K_X8_refusal [.ref 72, .int (iI v1)] σ (fun x2 s1 => ((x2 = 0 → EvI K_X8_high [.ref 72, .int (iI v1)] s1 (fun x6 s5 => i32 ((x6 - v3)) ∧ EvZ K_X8_in [.long (lI v2), .long (lI 0), .long (lI (x6 - v3))] s5 (fun s9 => Q 0 s9) (fun s9 => Q (-12) s9))) ∧ (x2 ≠ 0 → Q x2 s1)))) : EvI K_X8_refusal_ [.ref 72, .int (iI v1), .int (iI v2), .int (iI v3)] σ Q := Ev.of rfl (Nat.le_of_ble_eq_true rfl) rfl (bX8_refusal__0 h32v2 h)
theorem bX8_digitAt_0 {v1 : Int} {v2 : Int} {σ : ASt} {Q : Int → ASt → Prop}  (h : ((0 : Int) ≤ ((50 * v1) + v2) ∧ ((50 * v1) + v2) < 300) ∧ i32 ((gI σ 79 ((50 * v1) + v2))) ∧ Q (gI σ 79 ((50 * v1) + v2)) σ) : Wx K_X8_digitAt (QI Q) 0 [(0, .ref 72), (1, .int (iI v1)), (2, .int (iI v2))] [] σ := by
  intro p l e s m args below meth c D cA ad X0 hr hlk
  have X : Cx p s m args c (adA ad) D cA ad RX8 cX8_digitAt 3 := X0
  refine g_aload_n X 0 dX8_digitAt_0 rfl ?_
  refine g_getF X (f := 79) dX8_digitAt_1 lf_X8_31 rfl rfl rfl ?_
  refine g_bipush X dX8_digitAt_4 (by decide +kernel) ?_
  refine g_iload_n X 1 dX8_digitAt_6 rfl ?_
  refine g_imul X dX8_digitAt_7 ?_
  refine g_iload_n X 2 dX8_digitAt_8 rfl ?_
  refine g_iadd X dX8_digitAt_9 ?_
  obtain ⟨q1, h⟩ := h
  refine g_iald X dX8_digitAt_10 rfl q1.1 q1.2 ?_
  obtain ⟨q2, h⟩ := h
  exact g_iret X hr hlk dX8_digitAt_11 rfl ⟨_, rfl, q2, h⟩
theorem eX8_digitAt {v1 : Int} {v2 : Int} {σ : ASt} {Q : Int → ASt → Prop}  (h : ((0 : Int) ≤ ((50 * v1) + v2) ∧ ((50 * v1) + v2) < 300) ∧ i32 ((gI σ 79 ((50 * v1) + v2))) ∧ Q (gI σ 79 ((50 * v1) + v2)) σ) : EvI K_X8_digitAt [.ref 72, .int (iI v1), .int (iI v2)] σ Q := Ev.of rfl (Nat.le_of_ble_eq_true rfl) rfl (bX8_digitAt_0  h)
theorem bX8_at_0 {v1 : Int} {v2 : Int} {σ : ASt} {Q : Int → ASt → Prop}  (h : EvI K_X8_refusal_ [.ref 72, .int (iI v1), .int (iI v2), .int (iI 1)] σ (fun x2 s1 => ((x2 = 0 → EvI K_X8_digitAt [.ref 72, .int (iI v1), .int (iI v2)] s1 (fun x6 s5 => Q x6 s5)) ∧ (x2 ≠ 0 → Q x2 s1)))) : Wx K_X8_at (QI Q) 0 [(0, .ref 72), (1, .int (iI v1)), (2, .int (iI v2))] [] σ := by
  intro p l e s m args below meth c D cA ad X0 hr hlk
  have X : Cx p s m args c (adA ad) D cA ad RX8 cX8_at 4 := X0
  refine g_aload_n X 0 dX8_at_0 rfl ?_
  refine g_iload_n X 1 dX8_at_1 rfl ?_
  refine g_iload_n X 2 dX8_at_2 rfl ?_
  refine g_iconst X dX8_at_3 ?_
  refine g_cVI X (K := K_X8_refusal_) [.int (iI v1), .int (iI v2), .int (iI 1)] [] dX8_at_4 lv_X8_171 rm_X8_at_X8_refusal_ ⟨by decide, by decide⟩ adA_id rfl rfl rfl (Nat.le_of_ble_eq_true rfl) rfl h (fun x2 s1 q3 h => ?_)
  refine g_istore_n X (lv' := [(3, .int (iI x2)), (0, .ref 72), (1, .int (iI v1)), (2, .int (iI v2))]) dX8_at_7 (by decide) rfl ?_
  refine g_iload_n X 0 dX8_at_8 rfl ?_
  refine g_if_eq X (tgt := 16) dX8_at_9 (by decide) q3 (fun c4 => ?_) (fun c4 => ?_)
  · have h := h.1 c4
    refine g_aload_n X 1 dX8_at_16 rfl ?_
    refine g_iload_n X 2 dX8_at_17 rfl ?_
    refine g_iload_n X 3 dX8_at_18 rfl ?_
    refine g_cVI X (K := K_X8_digitAt) [.int (iI v1), .int (iI v2)] [] dX8_at_19 lv_X8_140 rm_X8_at_X8_digitAt ⟨by decide, by decide⟩ adA_id rfl rfl rfl (Nat.le_of_ble_eq_true rfl) rfl h (fun x6 s5 q7 h => ?_)
    exact g_iret X hr hlk dX8_at_22 rfl ⟨_, rfl, q7, h⟩
  · have h := h.2 c4
    refine g_iload_n X 0 dX8_at_12 rfl ?_
    refine g_goto X (tgt := 22) dX8_at_13 (by decide) ?_
    exact g_iret X hr hlk dX8_at_22 rfl ⟨_, rfl, q3, h⟩
theorem eX8_at {v1 : Int} {v2 : Int} {σ : ASt} {Q : Int → ASt → Prop}  (h : EvI K_X8_refusal_ [.ref 72, .int (iI v1), .int (iI v2), .int (iI 1)] σ (fun x2 s1 => ((x2 = 0 → EvI K_X8_digitAt [.ref 72, .int (iI v1), .int (iI v2)] s1 (fun x6 s5 => Q x6 s5)) ∧ (x2 ≠ 0 → Q x2 s1)))) : EvI K_X8_at [.ref 72, .int (iI v1), .int (iI v2)] σ Q := Ev.of rfl (Nat.le_of_ble_eq_true rfl) rfl (bX8_at_0  h)
theorem bX8_back_0 {σ : ASt} {Q : Int → ASt → Prop}  (h : i32 ((gI σ 72 10)) ∧ (((gI σ 72 10) ≠ 0 → Wx K_X8_back (QI Q) 22 [(0, .ref 72), (1, .int (iI 0))] [] (sI σ 72 10 ((gI σ 72 10) - 1))) ∧ ((gI σ 72 10) = 0 → Q (-3) σ))) : Wx K_X8_back (QI Q) 0 [(0, .ref 72)] [] σ := by
  intro p l e s m args below meth c D cA ad X0 hr hlk
  have X : Cx p s m args c (adA ad) D cA ad RX8 cX8_back 2 := X0
  refine g_aload_n X 0 dX8_back_0 rfl ?_
  refine g_getI X (z := 10) dX8_back_1 lf_X8_178 rfl rfl rfl ?_
  obtain ⟨q1, h⟩ := h
  refine g_if_ne X (tgt := 10) dX8_back_4 (by decide) q1 (fun c2 => ?_) (fun c2 => ?_)
  · have h := h.1 c2
    refine g_aload_n X 0 dX8_back_10 rfl ?_
    refine g_dup X dX8_back_11 rfl ?_
    refine g_getI X (z := 10) dX8_back_12 lf_X8_178 rfl rfl rfl ?_
    refine g_iconst X dX8_back_15 ?_
    refine g_isub X dX8_back_16 ?_
    refine g_putI X (j := 10) (z := 10) dX8_back_17 lp_X8_178 rfl rfl rfl ?_
    refine g_iconst X dX8_back_20 ?_
    refine g_istore_n X (lv' := [(1, .int (iI 0)), (0, .ref 72)]) dX8_back_21 (by decide) rfl ?_
    exact g_sub (lv' := [(0, .ref 72), (1, .int (iI 0))]) [1, 0] rfl (h p l e s m args below meth c D cA ad X0 hr hlk)
  · have h := h.2 c2
    refine g_bipush X dX8_back_7 (by decide +kernel) ?_
    exact g_iret X hr hlk dX8_back_9 rfl ⟨_, rfl, (by omega), h⟩
theorem eX8_back {σ : ASt} {Q : Int → ASt → Prop}  (h : i32 ((gI σ 72 10)) ∧ (((gI σ 72 10) ≠ 0 → Wx K_X8_back (QI Q) 22 [(0, .ref 72), (1, .int (iI 0))] [] (sI σ 72 10 ((gI σ 72 10) - 1))) ∧ ((gI σ 72 10) = 0 → Q (-3) σ))) : EvI K_X8_back [.ref 72] σ Q := Ev.of rfl (Nat.le_of_ble_eq_true rfl) rfl (bX8_back_0  h)
theorem bX8_back_22 {v1 : Int} {σ : ASt} {Q : Int → ASt → Prop} (h32v1 : i32 v1) (h : ((50 ≤ v1 → i32 ((gI σ 72 10)) ∧ Q (gI σ 72 10) σ) ∧ (v1 < 50 → ((0 : Int) ≤ (gI σ 72 10) ∧ (gI σ 72 10) < 12) ∧ ((0 : Int) ≤ ((50 * (gI σ 72 10)) + v1) ∧ ((50 * (gI σ 72 10)) + v1) < 600) ∧ ((0 : Int) ≤ ((50 * (gI σ 81 (gI σ 72 10))) + v1) ∧ ((50 * (gI σ 81 (gI σ 72 10))) + v1) < 300) ∧ Wx K_X8_back (QI Q) 22 [(0, .ref 72), (1, .int (iI (v1 + 1)))] [] (sI σ 79 ((50 * (gI σ 81 (gI σ 72 10))) + v1) (gI σ 82 ((50 * (gI σ 72 10)) + v1)))))) : Wx K_X8_back (QI Q) 22 [(0, .ref 72), (1, .int (iI v1))] [] σ := by
  intro p l e s m args below meth c D cA ad X0 hr hlk
  have X : Cx p s m args c (adA ad) D cA ad RX8 cX8_back 2 := X0
  refine g_iload_n X 1 dX8_back_22 rfl ?_
  refine g_bipush X dX8_back_23 (by decide +kernel) ?_
  refine g_icmp_ge X (tgt := 67) dX8_back_25 (by decide) h32v1 (by omega) (fun c1 => ?_) (fun c1 => ?_)
  · have h := h.1 c1
    refine g_aload_n X 0 dX8_back_67 rfl ?_
    refine g_getI X (z := 10) dX8_back_68 lf_X8_178 rfl rfl rfl ?_
    obtain ⟨q2, h⟩ := h
    exact g_iret X hr hlk dX8_back_71 rfl ⟨_, rfl, q2, h⟩
  · have h := h.2 c1
    refine g_aload_n X 0 dX8_back_28 rfl ?_
    refine g_getF X (f := 79) dX8_back_29 lf_X8_31 rfl rfl rfl ?_
    refine g_bipush X dX8_back_32 (by decide +kernel) ?_
    refine g_aload_n X 0 dX8_back_34 rfl ?_
    refine g_getF X (f := 81) dX8_back_35 lf_X8_37 rfl rfl rfl ?_
    refine g_aload_n X 0 dX8_back_38 rfl ?_
    refine g_getI X (z := 10) dX8_back_39 lf_X8_178 rfl rfl rfl ?_
    obtain ⟨q3, h⟩ := h
    refine g_iald X dX8_back_42 rfl q3.1 q3.2 ?_
    refine g_imul X dX8_back_43 ?_
    refine g_iload_n X 1 dX8_back_44 rfl ?_
    refine g_iadd X dX8_back_45 ?_
    refine g_aload_n X 0 dX8_back_46 rfl ?_
    refine g_getF X (f := 82) dX8_back_47 lf_X8_40 rfl rfl rfl ?_
    refine g_bipush X dX8_back_50 (by decide +kernel) ?_
    refine g_aload_n X 0 dX8_back_52 rfl ?_
    refine g_getI X (z := 10) dX8_back_53 lf_X8_178 rfl rfl rfl ?_
    refine g_imul X dX8_back_56 ?_
    refine g_iload_n X 1 dX8_back_57 rfl ?_
    refine g_iadd X dX8_back_58 ?_
    obtain ⟨q4, h⟩ := h
    refine g_iald X dX8_back_59 rfl q4.1 q4.2 ?_
    obtain ⟨q5, h⟩ := h
    refine g_iast X dX8_back_60 rfl q5.1 q5.2 ?_
    refine g_iinc X (x := v1) (lv' := [(1, .int (iI (v1 + 1))), (0, .ref 72)]) 1 dX8_back_61 rfl (by decide) rfl ?_
    refine g_goto X (tgt := 22) dX8_back_64 (by decide) ?_
    exact g_sub (lv' := [(0, .ref 72), (1, .int (iI (v1 + 1)))]) [1, 0] rfl (h p l e s m args below meth c D cA ad X0 hr hlk)
theorem bX8_isBase_0 {v0 : Int} {σ : ASt} {QT QF : ASt → Prop} (h32v0 : i32 v0) (h : EvZ K_X8_in [.long (lI v0), .long (lI 0), .long (lI 2)] σ (fun s1 => QT s1) (fun s1 => QF s1)) : Wx K_X8_isBase (QZ QT QF) 0 [(0, .int (iI v0))] [] σ := by
  intro p l e s m args below meth c D cA ad X0 hr hlk
  have X : Cx p s m args c (adA ad) D cA ad RX8 cX8_isBase 1 := X0
  refine g_iload_n X 0 dX8_isBase_0 rfl ?_
  refine g_i2l X dX8_isBase_1 h32v0 ?_
  refine g_lconst X (z := 0) dX8_isBase_2 (by decide +kernel) ?_
  refine g_ldc2 X (z := 2) dX8_isBase_3 lc_X8_102 (by decide +kernel) ?_
  refine g_cSZ X (K := K_X8_in) [.long (lI v0), .long (lI 0), .long (lI 2)] [] dX8_isBase_6 ls_X8_104 rm_X8_isBase_X8_in ⟨by decide, by decide⟩ adA_id rfl (Nat.le_of_ble_eq_true rfl) rfl h (fun s1 h => ?_) (fun s1 h => ?_)
  · skip
    exact g_iret X hr hlk dX8_isBase_9 rfl (Or.inl ⟨rfl, h⟩)
  · skip
    exact g_iret X hr hlk dX8_isBase_9 rfl (Or.inr ⟨rfl, h⟩)
theorem eX8_isBase {v0 : Int} {σ : ASt} {QT QF : ASt → Prop} (h32v0 : i32 v0) (h : EvZ K_X8_in [.long (lI v0), .long (lI 0), .long (lI 2)] σ (fun s1 => QT s1) (fun s1 => QF s1)) : EvZ K_X8_isBase [.int (iI v0)] σ QT QF := Ev.of rfl (Nat.le_of_ble_eq_true rfl) rfl (bX8_isBase_0 h32v0 h)
theorem bX8_step_0 {v1 : Int} {v2 : Int} {σ : ASt} {Q : Int → ASt → Prop} (h32v2 : i32 v2) (h : ((0 : Int) ≤ v1 ∧ v1 < 3) ∧ i32 ((gI σ 74 v1)) ∧ (gI σ 74 v1) ≠ 0 ∧ ((0 : Int) ≤ ((8 * v1) + (Int.tmod v2 (gI σ 74 v1))) ∧ ((8 * v1) + (Int.tmod v2 (gI σ 74 v1))) < 24) ∧ i32 ((gI σ 73 ((8 * v1) + (Int.tmod v2 (gI σ 74 v1))))) ∧ Q (gI σ 73 ((8 * v1) + (Int.tmod v2 (gI σ 74 v1)))) σ) : Wx K_X8_step (QI Q) 0 [(0, .ref 72), (1, .int (iI v1)), (2, .int (iI v2))] [] σ := by
  intro p l e s m args below meth c D cA ad X0 hr hlk
  have X : Cx p s m args c (adA ad) D cA ad RX8 cX8_step 3 := X0
  refine g_aload_n X 0 dX8_step_0 rfl ?_
  refine g_getF X (f := 73) dX8_step_1 lf_X8_11 rfl rfl rfl ?_
  refine g_bipush X dX8_step_4 (by decide +kernel) ?_
  refine g_iload_n X 1 dX8_step_6 rfl ?_
  refine g_imul X dX8_step_7 ?_
  refine g_iload_n X 2 dX8_step_8 rfl ?_
  refine g_aload_n X 0 dX8_step_9 rfl ?_
  refine g_getF X (f := 74) dX8_step_10 lf_X8_15 rfl rfl rfl ?_
  refine g_iload_n X 1 dX8_step_13 rfl ?_
  obtain ⟨q1, h⟩ := h
  refine g_iald X dX8_step_14 rfl q1.1 q1.2 ?_
  obtain ⟨q2, h⟩ := h
  obtain ⟨q3, h⟩ := h
  refine g_irem X dX8_step_15 h32v2 q2 q3 ?_
  refine g_iadd X dX8_step_16 ?_
  obtain ⟨q4, h⟩ := h
  refine g_iald X dX8_step_17 rfl q4.1 q4.2 ?_
  obtain ⟨q5, h⟩ := h
  exact g_iret X hr hlk dX8_step_18 rfl ⟨_, rfl, q5, h⟩
theorem eX8_step {v1 : Int} {v2 : Int} {σ : ASt} {Q : Int → ASt → Prop} (h32v2 : i32 v2) (h : ((0 : Int) ≤ v1 ∧ v1 < 3) ∧ i32 ((gI σ 74 v1)) ∧ (gI σ 74 v1) ≠ 0 ∧ ((0 : Int) ≤ ((8 * v1) + (Int.tmod v2 (gI σ 74 v1))) ∧ ((8 * v1) + (Int.tmod v2 (gI σ 74 v1))) < 24) ∧ i32 ((gI σ 73 ((8 * v1) + (Int.tmod v2 (gI σ 74 v1))))) ∧ Q (gI σ 73 ((8 * v1) + (Int.tmod v2 (gI σ 74 v1)))) σ) : EvI K_X8_step [.ref 72, .int (iI v1), .int (iI v2)] σ Q := Ev.of rfl (Nat.le_of_ble_eq_true rfl) rfl (bX8_step_0 h32v2 h)
theorem bX8_fills_0 {v1 : Int} {σ : ASt} {Q : ASt → Prop}  (h : Wx K_X8_fills (QV Q) 8 [(0, .ref 72), (1, .int (iI v1)), (2, .long (lI 1)), (4, .long (lI 1)), (6, .int (iI 0))] [] σ) : Wx K_X8_fills (QV Q) 0 [(0, .ref 72), (1, .int (iI v1))] [] σ := by
  intro p l e s m args below meth c D cA ad X0 hr hlk
  have X : Cx p s m args c (adA ad) D cA ad RX8 cX8_fills 9 := X0
  refine g_lconst X (z := 1) dX8_fills_0 (by decide +kernel) ?_
  refine g_lstore_n X (lv' := [(2, .long (lI 1)), (0, .ref 72), (1, .int (iI v1))]) dX8_fills_1 (by decide) rfl ?_
  refine g_lconst X (z := 1) dX8_fills_2 (by decide +kernel) ?_
  refine g_lstore X (lv' := [(4, .long (lI 1)), (2, .long (lI 1)), (0, .ref 72), (1, .int (iI v1))]) dX8_fills_3 (by decide) rfl ?_
  refine g_iconst X dX8_fills_5 ?_
  refine g_istore X (lv' := [(6, .int (iI 0)), (4, .long (lI 1)), (2, .long (lI 1)), (0, .ref 72), (1, .int (iI v1))]) dX8_fills_6 (by decide) rfl ?_
  exact g_sub (lv' := [(0, .ref 72), (1, .int (iI v1)), (2, .long (lI 1)), (4, .long (lI 1)), (6, .int (iI 0))]) [3, 4, 2, 1, 0] rfl (h p l e s m args below meth c D cA ad X0 hr hlk)
theorem eX8_fills {v1 : Int} {σ : ASt} {Q : ASt → Prop}  (h : Wx K_X8_fills (QV Q) 8 [(0, .ref 72), (1, .int (iI v1)), (2, .long (lI 1)), (4, .long (lI 1)), (6, .int (iI 0))] [] σ) : EvV K_X8_fills [.ref 72, .int (iI v1)] σ Q := Ev.of rfl (Nat.le_of_ble_eq_true rfl) rfl (bX8_fills_0  h)
theorem bX8_fills_8 {v1 : Int} {v2 : Int} {v4 : Int} {v6 : Int} {σ : ASt} {Q : ASt → Prop} (h32v6 : i32 v6) (h64v4 : i64 v4) (h : ((1000000000 < v4 → ((0 : Int) ≤ v1 ∧ v1 < 3) ∧ Q (sL (sI σ 75 v1 v6) 77 v1 (v4 - 1))) ∧ (v4 ≤ 1000000000 → ((0 : Int) ≤ ((50 * v1) + v6) ∧ ((50 * v1) + v6) < 150) ∧ ((v6 ≠ 0 → EvI K_X8_step [.ref 72, .int (iI v1), .int (iI v6)] (sL σ 76 ((50 * v1) + v6) v4) (fun x6 s5 => Wx K_X8_fills (QV Q) 8 [(0, .ref 72), (1, .int (iI v1)), (2, .long (lI v4)), (4, .long (lI ((x6 * v4) + v2))), (6, .int (iI (v6 + 1)))] [] s5)) ∧ (v6 = 0 → EvI K_X8_step [.ref 72, .int (iI v1), .int (iI 0)] (sL σ 76 ((50 * v1) + v6) v4) (fun x9 s8 => Wx K_X8_fills (QV Q) 8 [(0, .ref 72), (1, .int (iI v1)), (2, .long (lI v4)), (4, .long (lI (x9 + 1))), (6, .int (iI (v6 + 1)))] [] s8)))))) : Wx K_X8_fills (QV Q) 8 [(0, .ref 72), (1, .int (iI v1)), (2, .long (lI v2)), (4, .long (lI v4)), (6, .int (iI v6))] [] σ := by
  intro p l e s m args below meth c D cA ad X0 hr hlk
  have X : Cx p s m args c (adA ad) D cA ad RX8 cX8_fills 9 := X0
  refine g_lload X 3 dX8_fills_8 rfl ?_
  refine g_ldc2 X (z := 1000000000) dX8_fills_10 lc_X8_108 (by decide +kernel) ?_
  refine g_lc_gt X (tgt := 76) dX8_fills_13 dX8_fills_14 (by decide) h64v4 (by omega) (fun c1 => ?_) (fun c1 => ?_)
  · have h := h.1 c1
    refine g_aload_n X 0 dX8_fills_76 rfl ?_
    refine g_getF X (f := 75) dX8_fills_77 lf_X8_18 rfl rfl rfl ?_
    refine g_iload_n X 1 dX8_fills_80 rfl ?_
    refine g_iload X 4 dX8_fills_81 rfl ?_
    obtain ⟨q2, h⟩ := h
    refine g_iast X dX8_fills_83 rfl q2.1 q2.2 ?_
    refine g_aload_n X 0 dX8_fills_84 rfl ?_
    refine g_getF X (f := 77) dX8_fills_85 lf_X8_25 rfl rfl rfl ?_
    refine g_iload_n X 1 dX8_fills_88 rfl ?_
    refine g_lload X 3 dX8_fills_89 rfl ?_
    refine g_lconst X (z := 1) dX8_fills_91 (by decide +kernel) ?_
    refine g_lsub X dX8_fills_92 ?_
    refine g_last X dX8_fills_93 rfl q2.1 q2.2 ?_
    exact g_vret X hr hlk dX8_fills_94 ⟨rfl, h⟩
  · have h := h.2 c1
    refine g_aload_n X 0 dX8_fills_17 rfl ?_
    refine g_getF X (f := 76) dX8_fills_18 lf_X8_21 rfl rfl rfl ?_
    refine g_bipush X dX8_fills_21 (by decide +kernel) ?_
    refine g_iload_n X 1 dX8_fills_23 rfl ?_
    refine g_imul X dX8_fills_24 ?_
    refine g_iload X 4 dX8_fills_25 rfl ?_
    refine g_iadd X dX8_fills_27 ?_
    refine g_lload X 3 dX8_fills_28 rfl ?_
    obtain ⟨q3, h⟩ := h
    refine g_last X dX8_fills_30 rfl q3.1 q3.2 ?_
    refine g_iload X 4 dX8_fills_31 rfl ?_
    refine g_if_ne X (tgt := 48) dX8_fills_33 (by decide) h32v6 (fun c4 => ?_) (fun c4 => ?_)
    · have h := h.1 c4
      refine g_aload_n X 0 dX8_fills_48 rfl ?_
      refine g_iload_n X 1 dX8_fills_49 rfl ?_
      refine g_iload X 4 dX8_fills_50 rfl ?_
      refine g_cVI X (K := K_X8_step) [.int (iI v1), .int (iI v6)] [] dX8_fills_52 lv_X8_110 rm_X8_fills_X8_step ⟨by decide, by decide⟩ adA_id rfl rfl rfl (Nat.le_of_ble_eq_true rfl) rfl h (fun x6 s5 q7 h => ?_)
      refine g_i2l X dX8_fills_55 q7 ?_
      refine g_lload X 3 dX8_fills_56 rfl ?_
      refine g_lmul X dX8_fills_58 ?_
      refine g_lload_n X 2 dX8_fills_59 rfl ?_
      refine g_ladd X dX8_fills_60 ?_
      refine g_lstore X (lv' := [(7, .long (lI ((x6 * v4) + v2))), (0, .ref 72), (1, .int (iI v1)), (2, .long (lI v2)), (4, .long (lI v4)), (6, .int (iI v6))]) dX8_fills_61 (by decide) rfl ?_
      refine g_lload X 4 dX8_fills_63 rfl ?_
      refine g_lstore_n X (lv' := [(2, .long (lI v4)), (7, .long (lI ((x6 * v4) + v2))), (0, .ref 72), (1, .int (iI v1)), (4, .long (lI v4)), (6, .int (iI v6))]) dX8_fills_65 (by decide) rfl ?_
      refine g_lload X 1 dX8_fills_66 rfl ?_
      refine g_lstore X (lv' := [(4, .long (lI ((x6 * v4) + v2))), (2, .long (lI v4)), (7, .long (lI ((x6 * v4) + v2))), (0, .ref 72), (1, .int (iI v1)), (6, .int (iI v6))]) dX8_fills_68 (by decide) rfl ?_
      refine g_iinc X (x := v6) (lv' := [(6, .int (iI (v6 + 1))), (4, .long (lI ((x6 * v4) + v2))), (2, .long (lI v4)), (7, .long (lI ((x6 * v4) + v2))), (0, .ref 72), (1, .int (iI v1))]) 5 dX8_fills_70 rfl (by decide) rfl ?_
      refine g_goto X (tgt := 8) dX8_fills_73 (by decide) ?_
      exact g_sub (lv' := [(0, .ref 72), (1, .int (iI v1)), (2, .long (lI v4)), (4, .long (lI ((x6 * v4) + v2))), (6, .int (iI (v6 + 1)))]) [4, 5, 2, 1, 0] rfl (h p l e s m args below meth c D cA ad X0 hr hlk)
    · have h := h.2 c4
      refine g_aload_n X 0 dX8_fills_36 rfl ?_
      refine g_iload_n X 1 dX8_fills_37 rfl ?_
      refine g_iconst X dX8_fills_38 ?_
      refine g_cVI X (K := K_X8_step) [.int (iI v1), .int (iI 0)] [] dX8_fills_39 lv_X8_110 rm_X8_fills_X8_step ⟨by decide, by decide⟩ adA_id rfl rfl rfl (Nat.le_of_ble_eq_true rfl) rfl h (fun x9 s8 q10 h => ?_)
      refine g_i2l X dX8_fills_42 q10 ?_
      refine g_lconst X (z := 1) dX8_fills_43 (by decide +kernel) ?_
      refine g_ladd X dX8_fills_44 ?_
      refine g_goto X (tgt := 61) dX8_fills_45 (by decide) ?_
      refine g_lstore X (lv' := [(7, .long (lI (x9 + 1))), (0, .ref 72), (1, .int (iI v1)), (2, .long (lI v2)), (4, .long (lI v4)), (6, .int (iI v6))]) dX8_fills_61 (by decide) rfl ?_
      refine g_lload X 4 dX8_fills_63 rfl ?_
      refine g_lstore_n X (lv' := [(2, .long (lI v4)), (7, .long (lI (x9 + 1))), (0, .ref 72), (1, .int (iI v1)), (4, .long (lI v4)), (6, .int (iI v6))]) dX8_fills_65 (by decide) rfl ?_
      refine g_lload X 1 dX8_fills_66 rfl ?_
      refine g_lstore X (lv' := [(4, .long (lI (x9 + 1))), (2, .long (lI v4)), (7, .long (lI (x9 + 1))), (0, .ref 72), (1, .int (iI v1)), (6, .int (iI v6))]) dX8_fills_68 (by decide) rfl ?_
      refine g_iinc X (x := v6) (lv' := [(6, .int (iI (v6 + 1))), (4, .long (lI (x9 + 1))), (2, .long (lI v4)), (7, .long (lI (x9 + 1))), (0, .ref 72), (1, .int (iI v1))]) 5 dX8_fills_70 rfl (by decide) rfl ?_
      refine g_goto X (tgt := 8) dX8_fills_73 (by decide) ?_
      exact g_sub (lv' := [(0, .ref 72), (1, .int (iI v1)), (2, .long (lI v4)), (4, .long (lI (x9 + 1))), (6, .int (iI (v6 + 1)))]) [4, 5, 2, 1, 0] rfl (h p l e s m args below meth c D cA ad X0 hr hlk)
theorem bX8_moves_0 {v1 : Int} {v2 : Int} {σ : ASt} {Q : ASt → Prop}  (h : ((0 : Int) ≤ v1 ∧ v1 < 12) ∧ ((0 : Int) ≤ v2 ∧ v2 < 12) ∧ Wx K_X8_moves (QV Q) 14 [(0, .ref 72), (1, .int (iI v1)), (2, .int (iI v2)), (3, .int (iI 0))] [] (sI σ 81 v2 (gI σ 81 v1))) : Wx K_X8_moves (QV Q) 0 [(0, .ref 72), (1, .int (iI v1)), (2, .int (iI v2))] [] σ := by
  intro p l e s m args below meth c D cA ad X0 hr hlk
  have X : Cx p s m args c (adA ad) D cA ad RX8 cX8_moves 4 := X0
  refine g_aload_n X 0 dX8_moves_0 rfl ?_
  refine g_getF X (f := 81) dX8_moves_1 lf_X8_37 rfl rfl rfl ?_
  refine g_iload_n X 2 dX8_moves_4 rfl ?_
  refine g_aload_n X 0 dX8_moves_5 rfl ?_
  refine g_getF X (f := 81) dX8_moves_6 lf_X8_37 rfl rfl rfl ?_
  refine g_iload_n X 1 dX8_moves_9 rfl ?_
  obtain ⟨q1, h⟩ := h
  refine g_iald X dX8_moves_10 rfl q1.1 q1.2 ?_
  obtain ⟨q2, h⟩ := h
  refine g_iast X dX8_moves_11 rfl q2.1 q2.2 ?_
  refine g_iconst X dX8_moves_12 ?_
  refine g_istore_n X (lv' := [(3, .int (iI 0)), (0, .ref 72), (1, .int (iI v1)), (2, .int (iI v2))]) dX8_moves_13 (by decide) rfl ?_
  exact g_sub (lv' := [(0, .ref 72), (1, .int (iI v1)), (2, .int (iI v2)), (3, .int (iI 0))]) [1, 2, 3, 0] rfl (h p l e s m args below meth c D cA ad X0 hr hlk)
theorem eX8_moves {v1 : Int} {v2 : Int} {σ : ASt} {Q : ASt → Prop}  (h : ((0 : Int) ≤ v1 ∧ v1 < 12) ∧ ((0 : Int) ≤ v2 ∧ v2 < 12) ∧ Wx K_X8_moves (QV Q) 14 [(0, .ref 72), (1, .int (iI v1)), (2, .int (iI v2)), (3, .int (iI 0))] [] (sI σ 81 v2 (gI σ 81 v1))) : EvV K_X8_moves [.ref 72, .int (iI v1), .int (iI v2)] σ Q := Ev.of rfl (Nat.le_of_ble_eq_true rfl) rfl (bX8_moves_0  h)
theorem bX8_moves_14 {v1 : Int} {v2 : Int} {v3 : Int} {σ : ASt} {Q : ASt → Prop} (h32v3 : i32 v3) (h : ((50 ≤ v3 → Q σ) ∧ (v3 < 50 → ((0 : Int) ≤ ((50 * v1) + v3) ∧ ((50 * v1) + v3) < 600) ∧ ((0 : Int) ≤ ((50 * v2) + v3) ∧ ((50 * v2) + v3) < 600) ∧ Wx K_X8_moves (QV Q) 14 [(0, .ref 72), (1, .int (iI v1)), (2, .int (iI v2)), (3, .int (iI (v3 + 1)))] [] (sI σ 82 ((50 * v2) + v3) (gI σ 82 ((50 * v1) + v3)))))) : Wx K_X8_moves (QV Q) 14 [(0, .ref 72), (1, .int (iI v1)), (2, .int (iI v2)), (3, .int (iI v3))] [] σ := by
  intro p l e s m args below meth c D cA ad X0 hr hlk
  have X : Cx p s m args c (adA ad) D cA ad RX8 cX8_moves 4 := X0
  refine g_iload_n X 3 dX8_moves_14 rfl ?_
  refine g_bipush X dX8_moves_15 (by decide +kernel) ?_
  refine g_icmp_ge X (tgt := 48) dX8_moves_17 (by decide) h32v3 (by omega) (fun c1 => ?_) (fun c1 => ?_)
  · have h := h.1 c1
    exact g_vret X hr hlk dX8_moves_48 ⟨rfl, h⟩
  · have h := h.2 c1
    refine g_aload_n X 0 dX8_moves_20 rfl ?_
    refine g_getF X (f := 82) dX8_moves_21 lf_X8_40 rfl rfl rfl ?_
    refine g_bipush X dX8_moves_24 (by decide +kernel) ?_
    refine g_iload_n X 2 dX8_moves_26 rfl ?_
    refine g_imul X dX8_moves_27 ?_
    refine g_iload_n X 3 dX8_moves_28 rfl ?_
    refine g_iadd X dX8_moves_29 ?_
    refine g_aload_n X 0 dX8_moves_30 rfl ?_
    refine g_getF X (f := 82) dX8_moves_31 lf_X8_40 rfl rfl rfl ?_
    refine g_bipush X dX8_moves_34 (by decide +kernel) ?_
    refine g_iload_n X 1 dX8_moves_36 rfl ?_
    refine g_imul X dX8_moves_37 ?_
    refine g_iload_n X 3 dX8_moves_38 rfl ?_
    refine g_iadd X dX8_moves_39 ?_
    obtain ⟨q2, h⟩ := h
    refine g_iald X dX8_moves_40 rfl q2.1 q2.2 ?_
    obtain ⟨q3, h⟩ := h
    refine g_iast X dX8_moves_41 rfl q3.1 q3.2 ?_
    refine g_iinc X (x := v3) (lv' := [(3, .int (iI (v3 + 1))), (0, .ref 72), (1, .int (iI v1)), (2, .int (iI v2))]) 3 dX8_moves_42 rfl (by decide) rfl ?_
    refine g_goto X (tgt := 14) dX8_moves_45 (by decide) ?_
    exact g_sub (lv' := [(0, .ref 72), (1, .int (iI v1)), (2, .int (iI v2)), (3, .int (iI (v3 + 1)))]) [1, 2, 3, 0] rfl (h p l e s m args below meth c D cA ad X0 hr hlk)
theorem bX8_forgets_0 {v1 : Int} {σ : ASt} {Q : ASt → Prop}  (h : Wx K_X8_forgets (QV Q) 4 [(0, .ref 72), (1, .int (iI v1)), (2, .int (iI 0)), (3, .int (iI 0))] [] σ) : Wx K_X8_forgets (QV Q) 0 [(0, .ref 72), (1, .int (iI v1))] [] σ := by
  intro p l e s m args below meth c D cA ad X0 hr hlk
  have X : Cx p s m args c (adA ad) D cA ad RX8 cX8_forgets 4 := X0
  refine g_iconst X dX8_forgets_0 ?_
  refine g_istore_n X (lv' := [(2, .int (iI 0)), (0, .ref 72), (1, .int (iI v1))]) dX8_forgets_1 (by decide) rfl ?_
  refine g_iconst X dX8_forgets_2 ?_
  refine g_istore_n X (lv' := [(3, .int (iI 0)), (2, .int (iI 0)), (0, .ref 72), (1, .int (iI v1))]) dX8_forgets_3 (by decide) rfl ?_
  exact g_sub (lv' := [(0, .ref 72), (1, .int (iI v1)), (2, .int (iI 0)), (3, .int (iI 0))]) [2, 3, 1, 0] rfl (h p l e s m args below meth c D cA ad X0 hr hlk)
theorem eX8_forgets {v1 : Int} {σ : ASt} {Q : ASt → Prop}  (h : Wx K_X8_forgets (QV Q) 4 [(0, .ref 72), (1, .int (iI v1)), (2, .int (iI 0)), (3, .int (iI 0))] [] σ) : EvV K_X8_forgets [.ref 72, .int (iI v1)] σ Q := Ev.of rfl (Nat.le_of_ble_eq_true rfl) rfl (bX8_forgets_0  h)
theorem bX8_forgets_4 {v1 : Int} {v2 : Int} {v3 : Int} {σ : ASt} {Q : ASt → Prop} (h32v1 : i32 v1) (h32v3 : i32 v3) (h : i32 ((gI σ 72 10)) ∧ (((gI σ 72 10) ≤ v3 → Q (sI σ 72 10 v2)) ∧ (v3 < (gI σ 72 10) → ((0 : Int) ≤ v3 ∧ v3 < 12) ∧ i32 ((gI σ 81 v3)) ∧ (((gI σ 81 v3) ≠ v1 → EvV K_X8_moves [.ref 72, .int (iI v3), .int (iI v2)] σ (fun s6 => Wx K_X8_forgets (QV Q) 4 [(0, .ref 72), (1, .int (iI v1)), (2, .int (iI (v2 + 1))), (3, .int (iI (v3 + 1)))] [] s6)) ∧ ((gI σ 81 v3) = v1 → Wx K_X8_forgets (QV Q) 4 [(0, .ref 72), (1, .int (iI v1)), (2, .int (iI v2)), (3, .int (iI (v3 + 1)))] [] σ))))) : Wx K_X8_forgets (QV Q) 4 [(0, .ref 72), (1, .int (iI v1)), (2, .int (iI v2)), (3, .int (iI v3))] [] σ := by
  intro p l e s m args below meth c D cA ad X0 hr hlk
  have X : Cx p s m args c (adA ad) D cA ad RX8 cX8_forgets 4 := X0
  refine g_iload_n X 3 dX8_forgets_4 rfl ?_
  refine g_aload_n X 0 dX8_forgets_5 rfl ?_
  refine g_getI X (z := 10) dX8_forgets_6 lf_X8_178 rfl rfl rfl ?_
  obtain ⟨q1, h⟩ := h
  refine g_icmp_ge X (tgt := 40) dX8_forgets_9 (by decide) h32v3 q1 (fun c2 => ?_) (fun c2 => ?_)
  · have h := h.1 c2
    refine g_aload_n X 0 dX8_forgets_40 rfl ?_
    refine g_iload_n X 2 dX8_forgets_41 rfl ?_
    refine g_putI X (j := 10) (z := 10) dX8_forgets_42 lp_X8_178 rfl rfl rfl ?_
    exact g_vret X hr hlk dX8_forgets_45 ⟨rfl, h⟩
  · have h := h.2 c2
    refine g_aload_n X 0 dX8_forgets_12 rfl ?_
    refine g_getF X (f := 81) dX8_forgets_13 lf_X8_37 rfl rfl rfl ?_
    refine g_iload_n X 3 dX8_forgets_16 rfl ?_
    obtain ⟨q3, h⟩ := h
    refine g_iald X dX8_forgets_17 rfl q3.1 q3.2 ?_
    refine g_iload_n X 1 dX8_forgets_18 rfl ?_
    obtain ⟨q4, h⟩ := h
    refine g_icmp_ne X (tgt := 25) dX8_forgets_19 (by decide) q4 h32v1 (fun c5 => ?_) (fun c5 => ?_)
    · have h := h.1 c5
      refine g_aload_n X 0 dX8_forgets_25 rfl ?_
      refine g_iload_n X 3 dX8_forgets_26 rfl ?_
      refine g_iload_n X 2 dX8_forgets_27 rfl ?_
      refine g_cVV X (K := K_X8_moves) [.int (iI v3), .int (iI v2)] [] dX8_forgets_28 lv_X8_182 rm_X8_forgets_X8_moves ⟨by decide, by decide⟩ adA_id rfl rfl rfl (Nat.le_of_ble_eq_true rfl) rfl h (fun s6 h => ?_)
      refine g_iinc X (x := v2) (lv' := [(2, .int (iI (v2 + 1))), (0, .ref 72), (1, .int (iI v1)), (3, .int (iI v3))]) 2 dX8_forgets_31 rfl (by decide) rfl ?_
      refine g_iinc X (x := v3) (lv' := [(3, .int (iI (v3 + 1))), (2, .int (iI (v2 + 1))), (0, .ref 72), (1, .int (iI v1))]) 3 dX8_forgets_34 rfl (by decide) rfl ?_
      refine g_goto X (tgt := 4) dX8_forgets_37 (by decide) ?_
      exact g_sub (lv' := [(0, .ref 72), (1, .int (iI v1)), (2, .int (iI (v2 + 1))), (3, .int (iI (v3 + 1)))]) [2, 3, 1, 0] rfl (h p l e s m args below meth c D cA ad X0 hr hlk)
    · have h := h.2 c5
      refine g_goto X (tgt := 34) dX8_forgets_22 (by decide) ?_
      refine g_iinc X (x := v3) (lv' := [(3, .int (iI (v3 + 1))), (0, .ref 72), (1, .int (iI v1)), (2, .int (iI v2))]) 3 dX8_forgets_34 rfl (by decide) rfl ?_
      refine g_goto X (tgt := 4) dX8_forgets_37 (by decide) ?_
      exact g_sub (lv' := [(0, .ref 72), (1, .int (iI v1)), (2, .int (iI v2)), (3, .int (iI (v3 + 1)))]) [1, 2, 3, 0] rfl (h p l e s m args below meth c D cA ad X0 hr hlk)
theorem bX8_base_0 {v1 : Int} {v2 : Int} {v3 : Int} {σ : ASt} {Q : Int → ASt → Prop} (h32v2 : i32 v2) (h32v3 : i32 v3) (h : EvZ K_X8_isBase [.int (iI v1)] σ (fun s1 => EvZ K_X8_in [.long (lI v2), .long (lI 1), .long (lI 8)] s1 (fun s2 => ((0 ≤ v3 → Wx K_X8_base (QI Q) 32 [(0, .ref 72), (1, .int (iI v1)), (2, .int (iI v2)), (3, .int (iI v3)), (4, .int (iI v3)), (5, .int (iI 0))] [] s2) ∧ (v3 < 0 → Q (-2) s2))) (fun s2 => Q (-2) s2)) (fun s1 => Q (-2) s1)) : Wx K_X8_base (QI Q) 0 [(0, .ref 72), (1, .int (iI v1)), (2, .int (iI v2)), (3, .int (iI v3))] [] σ := by
  intro p l e s m args below meth c D cA ad X0 hr hlk
  have X : Cx p s m args c (adA ad) D cA ad RX8 cX8_base 6 := X0
  refine g_iload_n X 1 dX8_base_0 rfl ?_
  refine g_cSZ X (K := K_X8_isBase) [.int (iI v1)] [] dX8_base_1 ls_X8_114 rm_X8_base_X8_isBase ⟨by decide, by decide⟩ adA_id rfl (Nat.le_of_ble_eq_true rfl) rfl h (fun s1 h => ?_) (fun s1 h => ?_)
  · skip
    refine g_if_eq X (tgt := 23) dX8_base_4 (by decide) (by omega) (fun hc => absurd hc (by decide)) (fun _ => ?_)
    refine g_iload_n X 2 dX8_base_7 rfl ?_
    refine g_i2l X dX8_base_8 h32v2 ?_
    refine g_lconst X (z := 1) dX8_base_9 (by decide +kernel) ?_
    refine g_ldc2 X (z := 8) dX8_base_10 lc_X8_118 (by decide +kernel) ?_
    refine g_cSZ X (K := K_X8_in) [.long (lI v2), .long (lI 1), .long (lI 8)] [] dX8_base_13 ls_X8_104 rm_X8_base_X8_in ⟨by decide, by decide⟩ adA_id rfl (Nat.le_of_ble_eq_true rfl) rfl h (fun s2 h => ?_) (fun s2 h => ?_)
    · skip
      refine g_if_eq X (tgt := 23) dX8_base_16 (by decide) (by omega) (fun hc => absurd hc (by decide)) (fun _ => ?_)
      refine g_iload_n X 3 dX8_base_19 rfl ?_
      refine g_if_ge X (tgt := 26) dX8_base_20 (by decide) h32v3 (fun c3 => ?_) (fun c3 => ?_)
      · have h := h.1 c3
        refine g_iload_n X 3 dX8_base_26 rfl ?_
        refine g_istore X (lv' := [(4, .int (iI v3)), (0, .ref 72), (1, .int (iI v1)), (2, .int (iI v2)), (3, .int (iI v3))]) dX8_base_27 (by decide) rfl ?_
        refine g_iconst X dX8_base_29 ?_
        refine g_istore X (lv' := [(5, .int (iI 0)), (4, .int (iI v3)), (0, .ref 72), (1, .int (iI v1)), (2, .int (iI v2)), (3, .int (iI v3))]) dX8_base_30 (by decide) rfl ?_
        exact g_sub (lv' := [(0, .ref 72), (1, .int (iI v1)), (2, .int (iI v2)), (3, .int (iI v3)), (4, .int (iI v3)), (5, .int (iI 0))]) [2, 3, 4, 5, 1, 0] rfl (h p l e s m args below meth c D cA ad X0 hr hlk)
      · have h := h.2 c3
        refine g_bipush X dX8_base_23 (by decide +kernel) ?_
        exact g_iret X hr hlk dX8_base_25 rfl ⟨_, rfl, (by omega), h⟩
    · skip
      refine g_if_eq X (tgt := 23) dX8_base_16 (by decide) (by omega) (fun _ => ?_) (fun hc => absurd hc (by decide))
      refine g_bipush X dX8_base_23 (by decide +kernel) ?_
      exact g_iret X hr hlk dX8_base_25 rfl ⟨_, rfl, (by omega), h⟩
  · skip
    refine g_if_eq X (tgt := 23) dX8_base_4 (by decide) (by omega) (fun _ => ?_) (fun hc => absurd hc (by decide))
    refine g_bipush X dX8_base_23 (by decide +kernel) ?_
    exact g_iret X hr hlk dX8_base_25 rfl ⟨_, rfl, (by omega), h⟩
theorem eX8_base {v1 : Int} {v2 : Int} {v3 : Int} {σ : ASt} {Q : Int → ASt → Prop} (h32v2 : i32 v2) (h32v3 : i32 v3) (h : EvZ K_X8_isBase [.int (iI v1)] σ (fun s1 => EvZ K_X8_in [.long (lI v2), .long (lI 1), .long (lI 8)] s1 (fun s2 => ((0 ≤ v3 → Wx K_X8_base (QI Q) 32 [(0, .ref 72), (1, .int (iI v1)), (2, .int (iI v2)), (3, .int (iI v3)), (4, .int (iI v3)), (5, .int (iI 0))] [] s2) ∧ (v3 < 0 → Q (-2) s2))) (fun s2 => Q (-2) s2)) (fun s1 => Q (-2) s1)) : EvI K_X8_base [.ref 72, .int (iI v1), .int (iI v2), .int (iI v3)] σ Q := Ev.of rfl (Nat.le_of_ble_eq_true rfl) rfl (bX8_base_0 h32v2 h32v3 h)
theorem bX8_base_32 {v1 : Int} {v2 : Int} {v3 : Int} {v4 : Int} {v5 : Int} {σ : ASt} {Q : Int → ASt → Prop} (h32v2 : i32 v2) (h32v4 : i32 v4) (h32v5 : i32 v5) (h : ((v2 ≤ v5 → ((v4 ≤ 0 → ((0 : Int) ≤ v1 ∧ v1 < 3) ∧ Wx K_X8_base (QI Q) 85 [(0, .ref 72), (1, .int (iI v1)), (4, .int (iI v3)), (5, .int (iI (v2 - 1)))] [] (sI σ 74 v1 v2)) ∧ (0 < v4 → Q (-2) σ))) ∧ (v5 < v2 → i32 ((Int.tmod v4 10)) ∧ (((Int.tmod v4 10) ≠ 0 → Wx K_X8_base (QI Q) 32 [(0, .ref 72), (1, .int (iI v1)), (2, .int (iI v2)), (3, .int (iI v3)), (4, .int (iI (Int.tdiv v4 10))), (5, .int (iI (v5 + 1)))] [] σ) ∧ ((Int.tmod v4 10) = 0 → Q (-2) σ))))) : Wx K_X8_base (QI Q) 32 [(0, .ref 72), (1, .int (iI v1)), (2, .int (iI v2)), (3, .int (iI v3)), (4, .int (iI v4)), (5, .int (iI v5))] [] σ := by
  intro p l e s m args below meth c D cA ad X0 hr hlk
  have X : Cx p s m args c (adA ad) D cA ad RX8 cX8_base 6 := X0
  refine g_iload X 5 dX8_base_32 rfl ?_
  refine g_iload_n X 2 dX8_base_34 rfl ?_
  refine g_icmp_ge X (tgt := 62) dX8_base_35 (by decide) h32v5 h32v2 (fun c1 => ?_) (fun c1 => ?_)
  · have h := h.1 c1
    refine g_iload X 4 dX8_base_62 rfl ?_
    refine g_if_le X (tgt := 70) dX8_base_64 (by decide) h32v4 (fun c2 => ?_) (fun c2 => ?_)
    · have h := h.1 c2
      refine g_iload_n X 3 dX8_base_70 rfl ?_
      refine g_istore X (lv' := [(4, .int (iI v3)), (0, .ref 72), (1, .int (iI v1)), (2, .int (iI v2)), (3, .int (iI v3)), (5, .int (iI v5))]) dX8_base_71 (by decide) rfl ?_
      refine g_aload_n X 1 dX8_base_73 rfl ?_
      refine g_getF X (f := 74) dX8_base_74 lf_X8_15 rfl rfl rfl ?_
      refine g_iload_n X 2 dX8_base_77 rfl ?_
      refine g_iload_n X 3 dX8_base_78 rfl ?_
      obtain ⟨q3, h⟩ := h
      refine g_iast X dX8_base_79 rfl q3.1 q3.2 ?_
      refine g_iload_n X 3 dX8_base_80 rfl ?_
      refine g_iconst X dX8_base_81 ?_
      refine g_isub X dX8_base_82 ?_
      refine g_istore X (lv' := [(5, .int (iI (v2 - 1))), (4, .int (iI v3)), (0, .ref 72), (1, .int (iI v1)), (2, .int (iI v2)), (3, .int (iI v3))]) dX8_base_83 (by decide) rfl ?_
      exact g_sub (lv' := [(0, .ref 72), (1, .int (iI v1)), (4, .int (iI v3)), (5, .int (iI (v2 - 1)))]) [2, 3, 1, 0] rfl (h p l e s m args below meth c D cA ad X0 hr hlk)
    · have h := h.2 c2
      refine g_bipush X dX8_base_67 (by decide +kernel) ?_
      exact g_iret X hr hlk dX8_base_69 rfl ⟨_, rfl, (by omega), h⟩
  · have h := h.2 c1
    refine g_iload X 4 dX8_base_38 rfl ?_
    refine g_bipush X dX8_base_40 (by decide +kernel) ?_
    refine g_irem X dX8_base_42 h32v4 (by omega) (by decide) ?_
    obtain ⟨q4, h⟩ := h
    refine g_if_ne X (tgt := 49) dX8_base_43 (by decide) q4 (fun c5 => ?_) (fun c5 => ?_)
    · have h := h.1 c5
      refine g_iload X 4 dX8_base_49 rfl ?_
      refine g_bipush X dX8_base_51 (by decide +kernel) ?_
      refine g_idiv X dX8_base_53 h32v4 (by omega) (by decide) ?_
      refine g_istore X (lv' := [(4, .int (iI (Int.tdiv v4 10))), (0, .ref 72), (1, .int (iI v1)), (2, .int (iI v2)), (3, .int (iI v3)), (5, .int (iI v5))]) dX8_base_54 (by decide) rfl ?_
      refine g_iinc X (x := v5) (lv' := [(5, .int (iI (v5 + 1))), (4, .int (iI (Int.tdiv v4 10))), (0, .ref 72), (1, .int (iI v1)), (2, .int (iI v2)), (3, .int (iI v3))]) 5 dX8_base_56 rfl (by decide) rfl ?_
      refine g_goto X (tgt := 32) dX8_base_59 (by decide) ?_
      exact g_sub (lv' := [(0, .ref 72), (1, .int (iI v1)), (2, .int (iI v2)), (3, .int (iI v3)), (4, .int (iI (Int.tdiv v4 10))), (5, .int (iI (v5 + 1)))]) [2, 3, 4, 5, 1, 0] rfl (h p l e s m args below meth c D cA ad X0 hr hlk)
    · have h := h.2 c5
      refine g_bipush X dX8_base_46 (by decide +kernel) ?_
      exact g_iret X hr hlk dX8_base_48 rfl ⟨_, rfl, (by omega), h⟩
theorem bX8_base_85 {v1 : Int} {v4 : Int} {v5 : Int} {σ : ASt} {Q : Int → ASt → Prop} (h32v4 : i32 v4) (h32v5 : i32 v5) (h : ((v5 < 0 → EvV K_X8_fills [.ref 72, .int (iI v1)] σ (fun s2 => Wx K_X8_base (QI Q) 128 [(0, .ref 72), (1, .int (iI v1)), (5, .int (iI 0))] [] s2)) ∧ (0 ≤ v5 → ((0 : Int) ≤ ((8 * v1) + v5) ∧ ((8 * v1) + v5) < 24) ∧ Wx K_X8_base (QI Q) 85 [(0, .ref 72), (1, .int (iI v1)), (4, .int (iI (Int.tdiv v4 10))), (5, .int (iI (v5 + (-1))))] [] (sI σ 73 ((8 * v1) + v5) (Int.tmod v4 10))))) : Wx K_X8_base (QI Q) 85 [(0, .ref 72), (1, .int (iI v1)), (4, .int (iI v4)), (5, .int (iI v5))] [] σ := by
  intro p l e s m args below meth c D cA ad X0 hr hlk
  have X : Cx p s m args c (adA ad) D cA ad RX8 cX8_base 6 := X0
  refine g_iload X 3 dX8_base_85 rfl ?_
  refine g_if_lt X (tgt := 120) dX8_base_87 (by decide) h32v5 (fun c1 => ?_) (fun c1 => ?_)
  · have h := h.1 c1
    refine g_aload_n X 0 dX8_base_120 rfl ?_
    refine g_iload_n X 1 dX8_base_121 rfl ?_
    refine g_cVV X (K := K_X8_fills) [.int (iI v1)] [] dX8_base_122 lv_X8_98 rm_X8_base_X8_fills ⟨by decide, by decide⟩ adA_id rfl rfl rfl (Nat.le_of_ble_eq_true rfl) rfl h (fun s2 h => ?_)
    refine g_iconst X dX8_base_125 ?_
    refine g_istore X (lv' := [(5, .int (iI 0)), (0, .ref 72), (1, .int (iI v1)), (4, .int (iI v4))]) dX8_base_126 (by decide) rfl ?_
    exact g_sub (lv' := [(0, .ref 72), (1, .int (iI v1)), (5, .int (iI 0))]) [1, 2, 0] rfl (h p l e s m args below meth c D cA ad X0 hr hlk)
  · have h := h.2 c1
    refine g_aload_n X 0 dX8_base_90 rfl ?_
    refine g_getF X (f := 73) dX8_base_91 lf_X8_11 rfl rfl rfl ?_
    refine g_bipush X dX8_base_94 (by decide +kernel) ?_
    refine g_iload_n X 1 dX8_base_96 rfl ?_
    refine g_imul X dX8_base_97 ?_
    refine g_iload X 3 dX8_base_98 rfl ?_
    refine g_iadd X dX8_base_100 ?_
    refine g_iload X 2 dX8_base_101 rfl ?_
    refine g_bipush X dX8_base_103 (by decide +kernel) ?_
    refine g_irem X dX8_base_105 h32v4 (by omega) (by decide) ?_
    obtain ⟨q3, h⟩ := h
    refine g_iast X dX8_base_106 rfl q3.1 q3.2 ?_
    refine g_iload X 2 dX8_base_107 rfl ?_
    refine g_bipush X dX8_base_109 (by decide +kernel) ?_
    refine g_idiv X dX8_base_111 h32v4 (by omega) (by decide) ?_
    refine g_istore X (lv' := [(4, .int (iI (Int.tdiv v4 10))), (0, .ref 72), (1, .int (iI v1)), (5, .int (iI v5))]) dX8_base_112 (by decide) rfl ?_
    refine g_iinc X (x := v5) (lv' := [(5, .int (iI (v5 + (-1)))), (4, .int (iI (Int.tdiv v4 10))), (0, .ref 72), (1, .int (iI v1))]) 3 dX8_base_114 rfl (by decide) rfl ?_
    refine g_goto X (tgt := 85) dX8_base_117 (by decide) ?_
    exact g_sub (lv' := [(0, .ref 72), (1, .int (iI v1)), (4, .int (iI (Int.tdiv v4 10))), (5, .int (iI (v5 + (-1))))]) [2, 3, 1, 0] rfl (h p l e s m args below meth c D cA ad X0 hr hlk)
theorem bX8_base_128 {v1 : Int} {v5 : Int} {σ : ASt} {Q : Int → ASt → Prop} (h32v1 : i32 v1) (h32v5 : i32 v5) (h : ((6 ≤ v5 → ((0 : Int) ≤ v1 ∧ v1 < 3) ∧ i32 ((gI σ 75 v1)) ∧ Q (gI σ 75 v1) σ) ∧ (v5 < 6 → ((0 : Int) ≤ v5 ∧ v5 < 6) ∧ i32 ((gI σ 78 v5)) ∧ (((gI σ 78 v5) ≠ v1 → Wx K_X8_base (QI Q) 128 [(0, .ref 72), (1, .int (iI v1)), (5, .int (iI (v5 + 1)))] [] σ) ∧ ((gI σ 78 v5) = v1 → EvV K_X8_forgets [.ref 72, .int (iI v5)] (sI σ 78 v5 (-1)) (fun s7 => Wx K_X8_base (QI Q) 128 [(0, .ref 72), (1, .int (iI v1)), (5, .int (iI (v5 + 1)))] [] s7)))))) : Wx K_X8_base (QI Q) 128 [(0, .ref 72), (1, .int (iI v1)), (5, .int (iI v5))] [] σ := by
  intro p l e s m args below meth c D cA ad X0 hr hlk
  have X : Cx p s m args c (adA ad) D cA ad RX8 cX8_base 6 := X0
  refine g_iload X 2 dX8_base_128 rfl ?_
  refine g_bipush X dX8_base_130 (by decide +kernel) ?_
  refine g_icmp_ge X (tgt := 166) dX8_base_132 (by decide) h32v5 (by omega) (fun c1 => ?_) (fun c1 => ?_)
  · have h := h.1 c1
    refine g_aload_n X 0 dX8_base_166 rfl ?_
    refine g_getF X (f := 75) dX8_base_167 lf_X8_18 rfl rfl rfl ?_
    refine g_iload_n X 1 dX8_base_170 rfl ?_
    obtain ⟨q2, h⟩ := h
    refine g_iald X dX8_base_171 rfl q2.1 q2.2 ?_
    obtain ⟨q3, h⟩ := h
    exact g_iret X hr hlk dX8_base_172 rfl ⟨_, rfl, q3, h⟩
  · have h := h.2 c1
    refine g_aload_n X 0 dX8_base_135 rfl ?_
    refine g_getF X (f := 78) dX8_base_136 lf_X8_28 rfl rfl rfl ?_
    refine g_iload X 2 dX8_base_139 rfl ?_
    obtain ⟨q4, h⟩ := h
    refine g_iald X dX8_base_141 rfl q4.1 q4.2 ?_
    refine g_iload_n X 1 dX8_base_142 rfl ?_
    obtain ⟨q5, h⟩ := h
    refine g_icmp_ne X (tgt := 160) dX8_base_143 (by decide) q5 h32v1 (fun c6 => ?_) (fun c6 => ?_)
    · have h := h.1 c6
      refine g_iinc X (x := v5) (lv' := [(5, .int (iI (v5 + 1))), (0, .ref 72), (1, .int (iI v1))]) 2 dX8_base_160 rfl (by decide) rfl ?_
      refine g_goto X (tgt := 128) dX8_base_163 (by decide) ?_
      exact g_sub (lv' := [(0, .ref 72), (1, .int (iI v1)), (5, .int (iI (v5 + 1)))]) [1, 2, 0] rfl (h p l e s m args below meth c D cA ad X0 hr hlk)
    · have h := h.2 c6
      refine g_aload_n X 0 dX8_base_146 rfl ?_
      refine g_getF X (f := 78) dX8_base_147 lf_X8_28 rfl rfl rfl ?_
      refine g_iload X 2 dX8_base_150 rfl ?_
      refine g_iconst X dX8_base_152 ?_
      refine g_iast X dX8_base_153 rfl q4.1 q4.2 ?_
      refine g_aload_n X 0 dX8_base_154 rfl ?_
      refine g_iload X 2 dX8_base_155 rfl ?_
      refine g_cVV X (K := K_X8_forgets) [.int (iI v5)] [] dX8_base_157 lv_X8_120 rm_X8_base_X8_forgets ⟨by decide, by decide⟩ adA_id rfl rfl rfl (Nat.le_of_ble_eq_true rfl) rfl h (fun s7 h => ?_)
      refine g_iinc X (x := v5) (lv' := [(5, .int (iI (v5 + 1))), (0, .ref 72), (1, .int (iI v1))]) 2 dX8_base_160 rfl (by decide) rfl ?_
      refine g_goto X (tgt := 128) dX8_base_163 (by decide) ?_
      exact g_sub (lv' := [(0, .ref 72), (1, .int (iI v1)), (5, .int (iI (v5 + 1)))]) [1, 2, 0] rfl (h p l e s m args below meth c D cA ad X0 hr hlk)
theorem bX8_worth_0 {v1 : Int} {v2 : Int} {σ : ASt} {Q : Int → ASt → Prop}  (h : ((0 : Int) ≤ ((50 * v1) + v2) ∧ ((50 * v1) + v2) < 150) ∧ i64 ((gL σ 76 ((50 * v1) + v2))) ∧ Q (gL σ 76 ((50 * v1) + v2)) σ) : Wx K_X8_worth (QL Q) 0 [(0, .ref 72), (1, .int (iI v1)), (2, .int (iI v2))] [] σ := by
  intro p l e s m args below meth c D cA ad X0 hr hlk
  have X : Cx p s m args c (adA ad) D cA ad RX8 cX8_worth 3 := X0
  refine g_aload_n X 0 dX8_worth_0 rfl ?_
  refine g_getF X (f := 76) dX8_worth_1 lf_X8_21 rfl rfl rfl ?_
  refine g_bipush X dX8_worth_4 (by decide +kernel) ?_
  refine g_iload_n X 1 dX8_worth_6 rfl ?_
  refine g_imul X dX8_worth_7 ?_
  refine g_iload_n X 2 dX8_worth_8 rfl ?_
  refine g_iadd X dX8_worth_9 ?_
  obtain ⟨q1, h⟩ := h
  refine g_lald X dX8_worth_10 rfl q1.1 q1.2 ?_
  obtain ⟨q2, h⟩ := h
  exact g_lret X hr hlk dX8_worth_11 ⟨_, rfl, q2, h⟩
theorem eX8_worth {v1 : Int} {v2 : Int} {σ : ASt} {Q : Int → ASt → Prop}  (h : ((0 : Int) ≤ ((50 * v1) + v2) ∧ ((50 * v1) + v2) < 150) ∧ i64 ((gL σ 76 ((50 * v1) + v2))) ∧ Q (gL σ 76 ((50 * v1) + v2)) σ) : EvL K_X8_worth [.ref 72, .int (iI v1), .int (iI v2)] σ Q := Ev.of rfl (Nat.le_of_ble_eq_true rfl) rfl (bX8_worth_0  h)
theorem bX8_can_0 {v1 : Int} {v2 : Int} {v3 : Int} {σ : ASt} {QT QF : ASt → Prop} (h32v2 : i32 v2) (h : ((0 : Int) ≤ v1 ∧ v1 < 6) ∧ EvI K_X8_digitAt [.ref 72, .int (iI v1), .int (iI (v2 + 1))] σ (fun x3 s2 => EvI K_X8_digitAt [.ref 72, .int (iI v1), .int (iI v2)] s2 (fun x6 s5 => ((v2 ≠ 0 → EvI K_X8_step [.ref 72, .int (iI (gI σ 78 v1)), .int (iI v2)] s5 (fun x10 s9 => ((v2 ≠ 0 → EvI K_X8_digitAt [.ref 72, .int (iI v1), .int (iI (v2 - 1))] s9 (fun x14 s13 => i32 ((x3 - v3)) ∧ EvZ K_X8_in [.long (lI (x3 - v3)), .long (lI 0), .long (lI 99)] s13 (fun s17 => i32 ((x6 + (v3 * x10))) ∧ EvZ K_X8_in [.long (lI (x6 + (v3 * x10))), .long (lI 0), .long (lI 99)] s17 (fun s19 => i32 ((x14 + v3)) ∧ EvZ K_X8_in [.long (lI (x14 + v3)), .long (lI 0), .long (lI 99)] s19 (fun s21 => QT s21) (fun s21 => QF s21)) (fun s19 => QF s19)) (fun s17 => QF s17))) ∧ (v2 = 0 → i32 ((x3 - v3)) ∧ EvZ K_X8_in [.long (lI (x3 - v3)), .long (lI 0), .long (lI 99)] s9 (fun s23 => i32 ((x6 + (v3 * x10))) ∧ EvZ K_X8_in [.long (lI (x6 + (v3 * x10))), .long (lI 0), .long (lI 99)] s23 (fun s25 => EvZ K_X8_in [.long (lI 0), .long (lI 0), .long (lI 99)] s25 (fun s26 => QT s26) (fun s26 => QF s26)) (fun s25 => QF s25)) (fun s23 => QF s23))))) ∧ (v2 = 0 → EvL K_X8_worth [.ref 72, .int (iI (gI σ 78 v1)), .int (iI 1)] s5 (fun x28 s27 => ((v2 ≠ 0 → EvI K_X8_digitAt [.ref 72, .int (iI v1), .int (iI (v2 - 1))] s27 (fun x32 s31 => i32 ((x3 - v3)) ∧ EvZ K_X8_in [.long (lI (x3 - v3)), .long (lI 0), .long (lI 99)] s31 (fun s35 => i32 ((x6 + (v3 * x28))) ∧ EvZ K_X8_in [.long (lI (x6 + (v3 * x28))), .long (lI 0), .long (lI 99)] s35 (fun s37 => i32 ((x32 + v3)) ∧ EvZ K_X8_in [.long (lI (x32 + v3)), .long (lI 0), .long (lI 99)] s37 (fun s39 => QT s39) (fun s39 => QF s39)) (fun s37 => QF s37)) (fun s35 => QF s35))) ∧ (v2 = 0 → i32 ((x3 - v3)) ∧ EvZ K_X8_in [.long (lI (x3 - v3)), .long (lI 0), .long (lI 99)] s27 (fun s41 => i32 ((x6 + (v3 * x28))) ∧ EvZ K_X8_in [.long (lI (x6 + (v3 * x28))), .long (lI 0), .long (lI 99)] s41 (fun s43 => EvZ K_X8_in [.long (lI 0), .long (lI 0), .long (lI 99)] s43 (fun s44 => QT s44) (fun s44 => QF s44)) (fun s43 => QF s43)) (fun s41 => QF s41))))))))) : Wx K_X8_can (QZ QT QF) 0 [(0, .ref 72), (1, .int (iI v1)), (2, .int (iI v2)), (3, .int (iI v3))] [] σ := by
  intro p l e s m args below meth c D cA ad X0 hr hlk
  have X : Cx p s m args c (adA ad) D cA ad RX8 cX8_can 8 := X0
  refine g_aload_n X 0 dX8_can_0 rfl ?_
  refine g_getF X (f := 78) dX8_can_1 lf_X8_28 rfl rfl rfl ?_
  refine g_iload_n X 1 dX8_can_4 rfl ?_
  obtain ⟨q1, h⟩ := h
  refine g_iald X dX8_can_5 rfl q1.1 q1.2 ?_
  refine g_istore X (lv' := [(4, .int (iI (gI σ 78 v1))), (0, .ref 72), (1, .int (iI v1)), (2, .int (iI v2)), (3, .int (iI v3))]) dX8_can_6 (by decide) rfl ?_
  refine g_aload_n X 1 dX8_can_8 rfl ?_
  refine g_iload_n X 2 dX8_can_9 rfl ?_
  refine g_iload_n X 3 dX8_can_10 rfl ?_
  refine g_iconst X dX8_can_11 ?_
  refine g_iadd X dX8_can_12 ?_
  refine g_cVI X (K := K_X8_digitAt) [.int (iI v1), .int (iI (v2 + 1))] [] dX8_can_13 lv_X8_140 rm_X8_can_X8_digitAt ⟨by decide, by decide⟩ adA_id rfl rfl rfl (Nat.le_of_ble_eq_true rfl) rfl h (fun x3 s2 q4 h => ?_)
  refine g_iload_n X 4 dX8_can_16 rfl ?_
  refine g_isub X dX8_can_17 ?_
  refine g_istore X (lv' := [(5, .int (iI (x3 - v3))), (4, .int (iI (gI σ 78 v1))), (0, .ref 72), (1, .int (iI v1)), (2, .int (iI v2)), (3, .int (iI v3))]) dX8_can_18 (by decide) rfl ?_
  refine g_aload_n X 2 dX8_can_20 rfl ?_
  refine g_iload_n X 3 dX8_can_21 rfl ?_
  refine g_iload_n X 4 dX8_can_22 rfl ?_
  refine g_cVI X (K := K_X8_digitAt) [.int (iI v1), .int (iI v2)] [] dX8_can_23 lv_X8_140 rm_X8_can_X8_digitAt ⟨by decide, by decide⟩ adA_id rfl rfl rfl (Nat.le_of_ble_eq_true rfl) rfl h (fun x6 s5 q7 h => ?_)
  refine g_iload_n X 5 dX8_can_26 rfl ?_
  refine g_iload_n X 4 dX8_can_27 rfl ?_
  refine g_if_ne X (tgt := 42) dX8_can_28 (by decide) h32v2 (fun c8 => ?_) (fun c8 => ?_)
  · have h := h.1 c8
    refine g_aload_n X 2 dX8_can_42 rfl ?_
    refine g_iload X 1 dX8_can_43 rfl ?_
    refine g_iload_n X 4 dX8_can_45 rfl ?_
    refine g_cVI X (K := K_X8_step) [.int (iI (gI σ 78 v1)), .int (iI v2)] [.int (iI v3), .int (iI x6)] dX8_can_46 lv_X8_110 rm_X8_can_X8_step ⟨by decide, by decide⟩ adA_id rfl rfl rfl (Nat.le_of_ble_eq_true rfl) rfl h (fun x10 s9 q11 h => ?_)
    refine g_imul X dX8_can_49 ?_
    refine g_iadd X dX8_can_50 ?_
    refine g_istore X (lv' := [(6, .int (iI (x6 + (v3 * x10)))), (5, .int (iI (x3 - v3))), (4, .int (iI (gI σ 78 v1))), (0, .ref 72), (1, .int (iI v1)), (2, .int (iI v2)), (3, .int (iI v3))]) dX8_can_51 (by decide) rfl ?_
    refine g_iload_n X 5 dX8_can_53 rfl ?_
    refine g_if_ne X (tgt := 61) dX8_can_54 (by decide) h32v2 (fun c12 => ?_) (fun c12 => ?_)
    · have h := h.1 c12
      refine g_aload_n X 3 dX8_can_61 rfl ?_
      refine g_iload_n X 4 dX8_can_62 rfl ?_
      refine g_iload_n X 5 dX8_can_63 rfl ?_
      refine g_iconst X dX8_can_64 ?_
      refine g_isub X dX8_can_65 ?_
      refine g_cVI X (K := K_X8_digitAt) [.int (iI v1), .int (iI (v2 - 1))] [] dX8_can_66 lv_X8_140 rm_X8_can_X8_digitAt ⟨by decide, by decide⟩ adA_id rfl rfl rfl (Nat.le_of_ble_eq_true rfl) rfl h (fun x14 s13 q15 h => ?_)
      refine g_iload_n X 6 dX8_can_69 rfl ?_
      refine g_iadd X dX8_can_70 ?_
      refine g_istore X (lv' := [(7, .int (iI (x14 + v3))), (6, .int (iI (x6 + (v3 * x10)))), (5, .int (iI (x3 - v3))), (4, .int (iI (gI σ 78 v1))), (0, .ref 72), (1, .int (iI v1)), (2, .int (iI v2)), (3, .int (iI v3))]) dX8_can_71 (by decide) rfl ?_
      refine g_iload X 2 dX8_can_73 rfl ?_
      obtain ⟨q16, h⟩ := h
      refine g_i2l X dX8_can_75 q16 ?_
      refine g_lconst X (z := 0) dX8_can_76 (by decide +kernel) ?_
      refine g_ldc2 X (z := 99) dX8_can_77 lc_X8_186 (by decide +kernel) ?_
      refine g_cSZ X (K := K_X8_in) [.long (lI (x3 - v3)), .long (lI 0), .long (lI 99)] [] dX8_can_80 ls_X8_104 rm_X8_can_X8_in ⟨by decide, by decide⟩ adA_id rfl (Nat.le_of_ble_eq_true rfl) rfl h (fun s17 h => ?_) (fun s17 h => ?_)
      · skip
        refine g_if_eq X (tgt := 116) dX8_can_83 (by decide) (by omega) (fun hc => absurd hc (by decide)) (fun _ => ?_)
        refine g_iload X 1 dX8_can_86 rfl ?_
        obtain ⟨q18, h⟩ := h
        refine g_i2l X dX8_can_88 q18 ?_
        refine g_lconst X (z := 0) dX8_can_89 (by decide +kernel) ?_
        refine g_ldc2 X (z := 99) dX8_can_90 lc_X8_186 (by decide +kernel) ?_
        refine g_cSZ X (K := K_X8_in) [.long (lI (x6 + (v3 * x10))), .long (lI 0), .long (lI 99)] [] dX8_can_93 ls_X8_104 rm_X8_can_X8_in ⟨by decide, by decide⟩ adA_id rfl (Nat.le_of_ble_eq_true rfl) rfl h (fun s19 h => ?_) (fun s19 h => ?_)
        · skip
          refine g_if_eq X (tgt := 116) dX8_can_96 (by decide) (by omega) (fun hc => absurd hc (by decide)) (fun _ => ?_)
          refine g_iload X 0 dX8_can_99 rfl ?_
          obtain ⟨q20, h⟩ := h
          refine g_i2l X dX8_can_101 q20 ?_
          refine g_lconst X (z := 0) dX8_can_102 (by decide +kernel) ?_
          refine g_ldc2 X (z := 99) dX8_can_103 lc_X8_186 (by decide +kernel) ?_
          refine g_cSZ X (K := K_X8_in) [.long (lI (x14 + v3)), .long (lI 0), .long (lI 99)] [] dX8_can_106 ls_X8_104 rm_X8_can_X8_in ⟨by decide, by decide⟩ adA_id rfl (Nat.le_of_ble_eq_true rfl) rfl h (fun s21 h => ?_) (fun s21 h => ?_)
          · skip
            refine g_if_eq X (tgt := 116) dX8_can_109 (by decide) (by omega) (fun hc => absurd hc (by decide)) (fun _ => ?_)
            refine g_iconst X dX8_can_112 ?_
            refine g_goto X (tgt := 117) dX8_can_113 (by decide) ?_
            exact g_iret X hr hlk dX8_can_117 rfl (Or.inl ⟨rfl, h⟩)
          · skip
            refine g_if_eq X (tgt := 116) dX8_can_109 (by decide) (by omega) (fun _ => ?_) (fun hc => absurd hc (by decide))
            refine g_iconst X dX8_can_116 ?_
            exact g_iret X hr hlk dX8_can_117 rfl (Or.inr ⟨rfl, h⟩)
        · skip
          refine g_if_eq X (tgt := 116) dX8_can_96 (by decide) (by omega) (fun _ => ?_) (fun hc => absurd hc (by decide))
          refine g_iconst X dX8_can_116 ?_
          exact g_iret X hr hlk dX8_can_117 rfl (Or.inr ⟨rfl, h⟩)
      · skip
        refine g_if_eq X (tgt := 116) dX8_can_83 (by decide) (by omega) (fun _ => ?_) (fun hc => absurd hc (by decide))
        refine g_iconst X dX8_can_116 ?_
        exact g_iret X hr hlk dX8_can_117 rfl (Or.inr ⟨rfl, h⟩)
    · have h := h.2 c12
      refine g_iconst X dX8_can_57 ?_
      refine g_goto X (tgt := 71) dX8_can_58 (by decide) ?_
      refine g_istore X (lv' := [(7, .int (iI 0)), (6, .int (iI (x6 + (v3 * x10)))), (5, .int (iI (x3 - v3))), (4, .int (iI (gI σ 78 v1))), (0, .ref 72), (1, .int (iI v1)), (2, .int (iI v2)), (3, .int (iI v3))]) dX8_can_71 (by decide) rfl ?_
      refine g_iload X 2 dX8_can_73 rfl ?_
      obtain ⟨q22, h⟩ := h
      refine g_i2l X dX8_can_75 q22 ?_
      refine g_lconst X (z := 0) dX8_can_76 (by decide +kernel) ?_
      refine g_ldc2 X (z := 99) dX8_can_77 lc_X8_186 (by decide +kernel) ?_
      refine g_cSZ X (K := K_X8_in) [.long (lI (x3 - v3)), .long (lI 0), .long (lI 99)] [] dX8_can_80 ls_X8_104 rm_X8_can_X8_in ⟨by decide, by decide⟩ adA_id rfl (Nat.le_of_ble_eq_true rfl) rfl h (fun s23 h => ?_) (fun s23 h => ?_)
      · skip
        refine g_if_eq X (tgt := 116) dX8_can_83 (by decide) (by omega) (fun hc => absurd hc (by decide)) (fun _ => ?_)
        refine g_iload X 1 dX8_can_86 rfl ?_
        obtain ⟨q24, h⟩ := h
        refine g_i2l X dX8_can_88 q24 ?_
        refine g_lconst X (z := 0) dX8_can_89 (by decide +kernel) ?_
        refine g_ldc2 X (z := 99) dX8_can_90 lc_X8_186 (by decide +kernel) ?_
        refine g_cSZ X (K := K_X8_in) [.long (lI (x6 + (v3 * x10))), .long (lI 0), .long (lI 99)] [] dX8_can_93 ls_X8_104 rm_X8_can_X8_in ⟨by decide, by decide⟩ adA_id rfl (Nat.le_of_ble_eq_true rfl) rfl h (fun s25 h => ?_) (fun s25 h => ?_)
        · skip
          refine g_if_eq X (tgt := 116) dX8_can_96 (by decide) (by omega) (fun hc => absurd hc (by decide)) (fun _ => ?_)
          refine g_iload X 0 dX8_can_99 rfl ?_
          refine g_i2l X dX8_can_101 (by omega) ?_
          refine g_lconst X (z := 0) dX8_can_102 (by decide +kernel) ?_
          refine g_ldc2 X (z := 99) dX8_can_103 lc_X8_186 (by decide +kernel) ?_
          refine g_cSZ X (K := K_X8_in) [.long (lI 0), .long (lI 0), .long (lI 99)] [] dX8_can_106 ls_X8_104 rm_X8_can_X8_in ⟨by decide, by decide⟩ adA_id rfl (Nat.le_of_ble_eq_true rfl) rfl h (fun s26 h => ?_) (fun s26 h => ?_)
          · skip
            refine g_if_eq X (tgt := 116) dX8_can_109 (by decide) (by omega) (fun hc => absurd hc (by decide)) (fun _ => ?_)
            refine g_iconst X dX8_can_112 ?_
            refine g_goto X (tgt := 117) dX8_can_113 (by decide) ?_
            exact g_iret X hr hlk dX8_can_117 rfl (Or.inl ⟨rfl, h⟩)
          · skip
            refine g_if_eq X (tgt := 116) dX8_can_109 (by decide) (by omega) (fun _ => ?_) (fun hc => absurd hc (by decide))
            refine g_iconst X dX8_can_116 ?_
            exact g_iret X hr hlk dX8_can_117 rfl (Or.inr ⟨rfl, h⟩)
        · skip
          refine g_if_eq X (tgt := 116) dX8_can_96 (by decide) (by omega) (fun _ => ?_) (fun hc => absurd hc (by decide))
          refine g_iconst X dX8_can_116 ?_
          exact g_iret X hr hlk dX8_can_117 rfl (Or.inr ⟨rfl, h⟩)
      · skip
        refine g_if_eq X (tgt := 116) dX8_can_83 (by decide) (by omega) (fun _ => ?_) (fun hc => absurd hc (by decide))
        refine g_iconst X dX8_can_116 ?_
        exact g_iret X hr hlk dX8_can_117 rfl (Or.inr ⟨rfl, h⟩)
  · have h := h.2 c8
    refine g_aload_n X 2 dX8_can_31 rfl ?_
    refine g_iload X 1 dX8_can_32 rfl ?_
    refine g_iconst X dX8_can_34 ?_
    refine g_cVL X (K := K_X8_worth) [.int (iI (gI σ 78 v1)), .int (iI 1)] [.int (iI v3), .int (iI x6)] dX8_can_35 lv_X8_129 rm_X8_can_X8_worth ⟨by decide, by decide⟩ adA_id rfl rfl rfl (Nat.le_of_ble_eq_true rfl) rfl h (fun x28 s27 q29 h => ?_)
    refine g_l2i X dX8_can_38 ?_
    refine g_goto X (tgt := 49) dX8_can_39 (by decide) ?_
    refine g_imul X dX8_can_49 ?_
    refine g_iadd X dX8_can_50 ?_
    refine g_istore X (lv' := [(6, .int (iI (x6 + (v3 * x28)))), (5, .int (iI (x3 - v3))), (4, .int (iI (gI σ 78 v1))), (0, .ref 72), (1, .int (iI v1)), (2, .int (iI v2)), (3, .int (iI v3))]) dX8_can_51 (by decide) rfl ?_
    refine g_iload_n X 5 dX8_can_53 rfl ?_
    refine g_if_ne X (tgt := 61) dX8_can_54 (by decide) h32v2 (fun c30 => ?_) (fun c30 => ?_)
    · have h := h.1 c30
      refine g_aload_n X 3 dX8_can_61 rfl ?_
      refine g_iload_n X 4 dX8_can_62 rfl ?_
      refine g_iload_n X 5 dX8_can_63 rfl ?_
      refine g_iconst X dX8_can_64 ?_
      refine g_isub X dX8_can_65 ?_
      refine g_cVI X (K := K_X8_digitAt) [.int (iI v1), .int (iI (v2 - 1))] [] dX8_can_66 lv_X8_140 rm_X8_can_X8_digitAt ⟨by decide, by decide⟩ adA_id rfl rfl rfl (Nat.le_of_ble_eq_true rfl) rfl h (fun x32 s31 q33 h => ?_)
      refine g_iload_n X 6 dX8_can_69 rfl ?_
      refine g_iadd X dX8_can_70 ?_
      refine g_istore X (lv' := [(7, .int (iI (x32 + v3))), (6, .int (iI (x6 + (v3 * x28)))), (5, .int (iI (x3 - v3))), (4, .int (iI (gI σ 78 v1))), (0, .ref 72), (1, .int (iI v1)), (2, .int (iI v2)), (3, .int (iI v3))]) dX8_can_71 (by decide) rfl ?_
      refine g_iload X 2 dX8_can_73 rfl ?_
      obtain ⟨q34, h⟩ := h
      refine g_i2l X dX8_can_75 q34 ?_
      refine g_lconst X (z := 0) dX8_can_76 (by decide +kernel) ?_
      refine g_ldc2 X (z := 99) dX8_can_77 lc_X8_186 (by decide +kernel) ?_
      refine g_cSZ X (K := K_X8_in) [.long (lI (x3 - v3)), .long (lI 0), .long (lI 99)] [] dX8_can_80 ls_X8_104 rm_X8_can_X8_in ⟨by decide, by decide⟩ adA_id rfl (Nat.le_of_ble_eq_true rfl) rfl h (fun s35 h => ?_) (fun s35 h => ?_)
      · skip
        refine g_if_eq X (tgt := 116) dX8_can_83 (by decide) (by omega) (fun hc => absurd hc (by decide)) (fun _ => ?_)
        refine g_iload X 1 dX8_can_86 rfl ?_
        obtain ⟨q36, h⟩ := h
        refine g_i2l X dX8_can_88 q36 ?_
        refine g_lconst X (z := 0) dX8_can_89 (by decide +kernel) ?_
        refine g_ldc2 X (z := 99) dX8_can_90 lc_X8_186 (by decide +kernel) ?_
        refine g_cSZ X (K := K_X8_in) [.long (lI (x6 + (v3 * x28))), .long (lI 0), .long (lI 99)] [] dX8_can_93 ls_X8_104 rm_X8_can_X8_in ⟨by decide, by decide⟩ adA_id rfl (Nat.le_of_ble_eq_true rfl) rfl h (fun s37 h => ?_) (fun s37 h => ?_)
        · skip
          refine g_if_eq X (tgt := 116) dX8_can_96 (by decide) (by omega) (fun hc => absurd hc (by decide)) (fun _ => ?_)
          refine g_iload X 0 dX8_can_99 rfl ?_
          obtain ⟨q38, h⟩ := h
          refine g_i2l X dX8_can_101 q38 ?_
          refine g_lconst X (z := 0) dX8_can_102 (by decide +kernel) ?_
          refine g_ldc2 X (z := 99) dX8_can_103 lc_X8_186 (by decide +kernel) ?_
          refine g_cSZ X (K := K_X8_in) [.long (lI (x32 + v3)), .long (lI 0), .long (lI 99)] [] dX8_can_106 ls_X8_104 rm_X8_can_X8_in ⟨by decide, by decide⟩ adA_id rfl (Nat.le_of_ble_eq_true rfl) rfl h (fun s39 h => ?_) (fun s39 h => ?_)
          · skip
            refine g_if_eq X (tgt := 116) dX8_can_109 (by decide) (by omega) (fun hc => absurd hc (by decide)) (fun _ => ?_)
            refine g_iconst X dX8_can_112 ?_
            refine g_goto X (tgt := 117) dX8_can_113 (by decide) ?_
            exact g_iret X hr hlk dX8_can_117 rfl (Or.inl ⟨rfl, h⟩)
          · skip
            refine g_if_eq X (tgt := 116) dX8_can_109 (by decide) (by omega) (fun _ => ?_) (fun hc => absurd hc (by decide))
            refine g_iconst X dX8_can_116 ?_
            exact g_iret X hr hlk dX8_can_117 rfl (Or.inr ⟨rfl, h⟩)
        · skip
          refine g_if_eq X (tgt := 116) dX8_can_96 (by decide) (by omega) (fun _ => ?_) (fun hc => absurd hc (by decide))
          refine g_iconst X dX8_can_116 ?_
          exact g_iret X hr hlk dX8_can_117 rfl (Or.inr ⟨rfl, h⟩)
      · skip
        refine g_if_eq X (tgt := 116) dX8_can_83 (by decide) (by omega) (fun _ => ?_) (fun hc => absurd hc (by decide))
        refine g_iconst X dX8_can_116 ?_
        exact g_iret X hr hlk dX8_can_117 rfl (Or.inr ⟨rfl, h⟩)
    · have h := h.2 c30
      refine g_iconst X dX8_can_57 ?_
      refine g_goto X (tgt := 71) dX8_can_58 (by decide) ?_
      refine g_istore X (lv' := [(7, .int (iI 0)), (6, .int (iI (x6 + (v3 * x28)))), (5, .int (iI (x3 - v3))), (4, .int (iI (gI σ 78 v1))), (0, .ref 72), (1, .int (iI v1)), (2, .int (iI v2)), (3, .int (iI v3))]) dX8_can_71 (by decide) rfl ?_
      refine g_iload X 2 dX8_can_73 rfl ?_
      obtain ⟨q40, h⟩ := h
      refine g_i2l X dX8_can_75 q40 ?_
      refine g_lconst X (z := 0) dX8_can_76 (by decide +kernel) ?_
      refine g_ldc2 X (z := 99) dX8_can_77 lc_X8_186 (by decide +kernel) ?_
      refine g_cSZ X (K := K_X8_in) [.long (lI (x3 - v3)), .long (lI 0), .long (lI 99)] [] dX8_can_80 ls_X8_104 rm_X8_can_X8_in ⟨by decide, by decide⟩ adA_id rfl (Nat.le_of_ble_eq_true rfl) rfl h (fun s41 h => ?_) (fun s41 h => ?_)
      · skip
        refine g_if_eq X (tgt := 116) dX8_can_83 (by decide) (by omega) (fun hc => absurd hc (by decide)) (fun _ => ?_)
        refine g_iload X 1 dX8_can_86 rfl ?_
        obtain ⟨q42, h⟩ := h
        refine g_i2l X dX8_can_88 q42 ?_
        refine g_lconst X (z := 0) dX8_can_89 (by decide +kernel) ?_
        refine g_ldc2 X (z := 99) dX8_can_90 lc_X8_186 (by decide +kernel) ?_
        refine g_cSZ X (K := K_X8_in) [.long (lI (x6 + (v3 * x28))), .long (lI 0), .long (lI 99)] [] dX8_can_93 ls_X8_104 rm_X8_can_X8_in ⟨by decide, by decide⟩ adA_id rfl (Nat.le_of_ble_eq_true rfl) rfl h (fun s43 h => ?_) (fun s43 h => ?_)
        · skip
          refine g_if_eq X (tgt := 116) dX8_can_96 (by decide) (by omega) (fun hc => absurd hc (by decide)) (fun _ => ?_)
          refine g_iload X 0 dX8_can_99 rfl ?_
          refine g_i2l X dX8_can_101 (by omega) ?_
          refine g_lconst X (z := 0) dX8_can_102 (by decide +kernel) ?_
          refine g_ldc2 X (z := 99) dX8_can_103 lc_X8_186 (by decide +kernel) ?_
          refine g_cSZ X (K := K_X8_in) [.long (lI 0), .long (lI 0), .long (lI 99)] [] dX8_can_106 ls_X8_104 rm_X8_can_X8_in ⟨by decide, by decide⟩ adA_id rfl (Nat.le_of_ble_eq_true rfl) rfl h (fun s44 h => ?_) (fun s44 h => ?_)
          · skip
            refine g_if_eq X (tgt := 116) dX8_can_109 (by decide) (by omega) (fun hc => absurd hc (by decide)) (fun _ => ?_)
            refine g_iconst X dX8_can_112 ?_
            refine g_goto X (tgt := 117) dX8_can_113 (by decide) ?_
            exact g_iret X hr hlk dX8_can_117 rfl (Or.inl ⟨rfl, h⟩)
          · skip
            refine g_if_eq X (tgt := 116) dX8_can_109 (by decide) (by omega) (fun _ => ?_) (fun hc => absurd hc (by decide))
            refine g_iconst X dX8_can_116 ?_
            exact g_iret X hr hlk dX8_can_117 rfl (Or.inr ⟨rfl, h⟩)
        · skip
          refine g_if_eq X (tgt := 116) dX8_can_96 (by decide) (by omega) (fun _ => ?_) (fun hc => absurd hc (by decide))
          refine g_iconst X dX8_can_116 ?_
          exact g_iret X hr hlk dX8_can_117 rfl (Or.inr ⟨rfl, h⟩)
      · skip
        refine g_if_eq X (tgt := 116) dX8_can_83 (by decide) (by omega) (fun _ => ?_) (fun hc => absurd hc (by decide))
        refine g_iconst X dX8_can_116 ?_
        exact g_iret X hr hlk dX8_can_117 rfl (Or.inr ⟨rfl, h⟩)
theorem eX8_can {v1 : Int} {v2 : Int} {v3 : Int} {σ : ASt} {QT QF : ASt → Prop} (h32v2 : i32 v2) (h : ((0 : Int) ≤ v1 ∧ v1 < 6) ∧ EvI K_X8_digitAt [.ref 72, .int (iI v1), .int (iI (v2 + 1))] σ (fun x3 s2 => EvI K_X8_digitAt [.ref 72, .int (iI v1), .int (iI v2)] s2 (fun x6 s5 => ((v2 ≠ 0 → EvI K_X8_step [.ref 72, .int (iI (gI σ 78 v1)), .int (iI v2)] s5 (fun x10 s9 => ((v2 ≠ 0 → EvI K_X8_digitAt [.ref 72, .int (iI v1), .int (iI (v2 - 1))] s9 (fun x14 s13 => i32 ((x3 - v3)) ∧ EvZ K_X8_in [.long (lI (x3 - v3)), .long (lI 0), .long (lI 99)] s13 (fun s17 => i32 ((x6 + (v3 * x10))) ∧ EvZ K_X8_in [.long (lI (x6 + (v3 * x10))), .long (lI 0), .long (lI 99)] s17 (fun s19 => i32 ((x14 + v3)) ∧ EvZ K_X8_in [.long (lI (x14 + v3)), .long (lI 0), .long (lI 99)] s19 (fun s21 => QT s21) (fun s21 => QF s21)) (fun s19 => QF s19)) (fun s17 => QF s17))) ∧ (v2 = 0 → i32 ((x3 - v3)) ∧ EvZ K_X8_in [.long (lI (x3 - v3)), .long (lI 0), .long (lI 99)] s9 (fun s23 => i32 ((x6 + (v3 * x10))) ∧ EvZ K_X8_in [.long (lI (x6 + (v3 * x10))), .long (lI 0), .long (lI 99)] s23 (fun s25 => EvZ K_X8_in [.long (lI 0), .long (lI 0), .long (lI 99)] s25 (fun s26 => QT s26) (fun s26 => QF s26)) (fun s25 => QF s25)) (fun s23 => QF s23))))) ∧ (v2 = 0 → EvL K_X8_worth [.ref 72, .int (iI (gI σ 78 v1)), .int (iI 1)] s5 (fun x28 s27 => ((v2 ≠ 0 → EvI K_X8_digitAt [.ref 72, .int (iI v1), .int (iI (v2 - 1))] s27 (fun x32 s31 => i32 ((x3 - v3)) ∧ EvZ K_X8_in [.long (lI (x3 - v3)), .long (lI 0), .long (lI 99)] s31 (fun s35 => i32 ((x6 + (v3 * x28))) ∧ EvZ K_X8_in [.long (lI (x6 + (v3 * x28))), .long (lI 0), .long (lI 99)] s35 (fun s37 => i32 ((x32 + v3)) ∧ EvZ K_X8_in [.long (lI (x32 + v3)), .long (lI 0), .long (lI 99)] s37 (fun s39 => QT s39) (fun s39 => QF s39)) (fun s37 => QF s37)) (fun s35 => QF s35))) ∧ (v2 = 0 → i32 ((x3 - v3)) ∧ EvZ K_X8_in [.long (lI (x3 - v3)), .long (lI 0), .long (lI 99)] s27 (fun s41 => i32 ((x6 + (v3 * x28))) ∧ EvZ K_X8_in [.long (lI (x6 + (v3 * x28))), .long (lI 0), .long (lI 99)] s41 (fun s43 => EvZ K_X8_in [.long (lI 0), .long (lI 0), .long (lI 99)] s43 (fun s44 => QT s44) (fun s44 => QF s44)) (fun s43 => QF s43)) (fun s41 => QF s41))))))))) : EvZ K_X8_can [.ref 72, .int (iI v1), .int (iI v2), .int (iI v3)] σ QT QF := Ev.of rfl (Nat.le_of_ble_eq_true rfl) rfl (bX8_can_0 h32v2 h)
theorem bX8_does_0 {v1 : Int} {σ : ASt} {Q : ASt → Prop}  (h : i32 ((gI σ 72 10)) ∧ (((gI σ 72 10) ≠ 12 → ((0 : Int) ≤ (gI σ 72 10) ∧ (gI σ 72 10) < 12) ∧ Wx K_X8_does (QV Q) 53 [(0, .ref 72), (1, .int (iI v1)), (2, .int (iI 0))] [] (sI σ 81 (gI σ 72 10) v1)) ∧ ((gI σ 72 10) = 12 → Wx K_X8_does (QV Q) 11 [(0, .ref 72), (1, .int (iI v1)), (2, .int (iI 1))] [] σ))) : Wx K_X8_does (QV Q) 0 [(0, .ref 72), (1, .int (iI v1))] [] σ := by
  intro p l e s m args below meth c D cA ad X0 hr hlk
  have X : Cx p s m args c (adA ad) D cA ad RX8 cX8_does 3 := X0
  refine g_aload_n X 0 dX8_does_0 rfl ?_
  refine g_getI X (z := 10) dX8_does_1 lf_X8_178 rfl rfl rfl ?_
  refine g_bipush X dX8_does_4 (by decide +kernel) ?_
  obtain ⟨q1, h⟩ := h
  refine g_icmp_ne X (tgt := 41) dX8_does_6 (by decide) q1 (by omega) (fun c2 => ?_) (fun c2 => ?_)
  · have h := h.1 c2
    refine g_aload_n X 0 dX8_does_41 rfl ?_
    refine g_getF X (f := 81) dX8_does_42 lf_X8_37 rfl rfl rfl ?_
    refine g_aload_n X 0 dX8_does_45 rfl ?_
    refine g_getI X (z := 10) dX8_does_46 lf_X8_178 rfl rfl rfl ?_
    refine g_iload_n X 1 dX8_does_49 rfl ?_
    obtain ⟨q3, h⟩ := h
    refine g_iast X dX8_does_50 rfl q3.1 q3.2 ?_
    refine g_iconst X dX8_does_51 ?_
    refine g_istore_n X (lv' := [(2, .int (iI 0)), (0, .ref 72), (1, .int (iI v1))]) dX8_does_52 (by decide) rfl ?_
    exact g_sub (lv' := [(0, .ref 72), (1, .int (iI v1)), (2, .int (iI 0))]) [1, 2, 0] rfl (h p l e s m args below meth c D cA ad X0 hr hlk)
  · have h := h.2 c2
    refine g_iconst X dX8_does_9 ?_
    refine g_istore_n X (lv' := [(2, .int (iI 1)), (0, .ref 72), (1, .int (iI v1))]) dX8_does_10 (by decide) rfl ?_
    exact g_sub (lv' := [(0, .ref 72), (1, .int (iI v1)), (2, .int (iI 1))]) [1, 2, 0] rfl (h p l e s m args below meth c D cA ad X0 hr hlk)
theorem eX8_does {v1 : Int} {σ : ASt} {Q : ASt → Prop}  (h : i32 ((gI σ 72 10)) ∧ (((gI σ 72 10) ≠ 12 → ((0 : Int) ≤ (gI σ 72 10) ∧ (gI σ 72 10) < 12) ∧ Wx K_X8_does (QV Q) 53 [(0, .ref 72), (1, .int (iI v1)), (2, .int (iI 0))] [] (sI σ 81 (gI σ 72 10) v1)) ∧ ((gI σ 72 10) = 12 → Wx K_X8_does (QV Q) 11 [(0, .ref 72), (1, .int (iI v1)), (2, .int (iI 1))] [] σ))) : EvV K_X8_does [.ref 72, .int (iI v1)] σ Q := Ev.of rfl (Nat.le_of_ble_eq_true rfl) rfl (bX8_does_0  h)
theorem bX8_does_53 {v1 : Int} {v2 : Int} {σ : ASt} {Q : ASt → Prop} (h32v2 : i32 v2) (h : ((50 ≤ v2 → Q (sI σ 72 10 ((gI σ 72 10) + 1))) ∧ (v2 < 50 → EvI K_X8_digitAt [.ref 72, .int (iI v1), .int (iI v2)] σ (fun x3 s2 => ((0 : Int) ≤ ((50 * (gI σ 72 10)) + v2) ∧ ((50 * (gI σ 72 10)) + v2) < 600) ∧ Wx K_X8_does (QV Q) 53 [(0, .ref 72), (1, .int (iI v1)), (2, .int (iI (v2 + 1)))] [] (sI s2 82 ((50 * (gI σ 72 10)) + v2) x3))))) : Wx K_X8_does (QV Q) 53 [(0, .ref 72), (1, .int (iI v1)), (2, .int (iI v2))] [] σ := by
  intro p l e s m args below meth c D cA ad X0 hr hlk
  have X : Cx p s m args c (adA ad) D cA ad RX8 cX8_does 3 := X0
  refine g_iload_n X 2 dX8_does_53 rfl ?_
  refine g_bipush X dX8_does_54 (by decide +kernel) ?_
  refine g_icmp_ge X (tgt := 85) dX8_does_56 (by decide) h32v2 (by omega) (fun c1 => ?_) (fun c1 => ?_)
  · have h := h.1 c1
    refine g_aload_n X 0 dX8_does_85 rfl ?_
    refine g_dup X dX8_does_86 rfl ?_
    refine g_getI X (z := 10) dX8_does_87 lf_X8_178 rfl rfl rfl ?_
    refine g_iconst X dX8_does_90 ?_
    refine g_iadd X dX8_does_91 ?_
    refine g_putI X (j := 10) (z := 10) dX8_does_92 lp_X8_178 rfl rfl rfl ?_
    exact g_vret X hr hlk dX8_does_95 ⟨rfl, h⟩
  · have h := h.2 c1
    refine g_aload_n X 0 dX8_does_59 rfl ?_
    refine g_getF X (f := 82) dX8_does_60 lf_X8_40 rfl rfl rfl ?_
    refine g_bipush X dX8_does_63 (by decide +kernel) ?_
    refine g_aload_n X 0 dX8_does_65 rfl ?_
    refine g_getI X (z := 10) dX8_does_66 lf_X8_178 rfl rfl rfl ?_
    refine g_imul X dX8_does_69 ?_
    refine g_iload_n X 2 dX8_does_70 rfl ?_
    refine g_iadd X dX8_does_71 ?_
    refine g_aload_n X 0 dX8_does_72 rfl ?_
    refine g_iload_n X 1 dX8_does_73 rfl ?_
    refine g_iload_n X 2 dX8_does_74 rfl ?_
    refine g_cVI X (K := K_X8_digitAt) [.int (iI v1), .int (iI v2)] [.int (iI ((50 * (gI σ 72 10)) + v2)), .ref 82] dX8_does_75 lv_X8_140 rm_X8_does_X8_digitAt ⟨by decide, by decide⟩ adA_id rfl rfl rfl (Nat.le_of_ble_eq_true rfl) rfl h (fun x3 s2 q4 h => ?_)
    obtain ⟨q5, h⟩ := h
    refine g_iast X dX8_does_78 rfl q5.1 q5.2 ?_
    refine g_iinc X (x := v2) (lv' := [(2, .int (iI (v2 + 1))), (0, .ref 72), (1, .int (iI v1))]) 2 dX8_does_79 rfl (by decide) rfl ?_
    refine g_goto X (tgt := 53) dX8_does_82 (by decide) ?_
    exact g_sub (lv' := [(0, .ref 72), (1, .int (iI v1)), (2, .int (iI (v2 + 1)))]) [1, 2, 0] rfl (h p l e s m args below meth c D cA ad X0 hr hlk)
theorem bX8_does_11 {v1 : Int} {v2 : Int} {σ : ASt} {Q : ASt → Prop} (h32v2 : i32 v2) (h : ((12 ≤ v2 → ((0 : Int) ≤ (gI (sI σ 72 10 ((gI σ 72 10) - 1)) 72 10) ∧ (gI (sI σ 72 10 ((gI σ 72 10) - 1)) 72 10) < 12) ∧ Wx K_X8_does (QV Q) 53 [(0, .ref 72), (1, .int (iI v1)), (2, .int (iI 0))] [] (sI (sI σ 72 10 ((gI σ 72 10) - 1)) 81 (gI (sI σ 72 10 ((gI σ 72 10) - 1)) 72 10) v1)) ∧ (v2 < 12 → EvV K_X8_moves [.ref 72, .int (iI v2), .int (iI (v2 - 1))] σ (fun s3 => Wx K_X8_does (QV Q) 11 [(0, .ref 72), (1, .int (iI v1)), (2, .int (iI (v2 + 1)))] [] s3)))) : Wx K_X8_does (QV Q) 11 [(0, .ref 72), (1, .int (iI v1)), (2, .int (iI v2))] [] σ := by
  intro p l e s m args below meth c D cA ad X0 hr hlk
  have X : Cx p s m args c (adA ad) D cA ad RX8 cX8_does 3 := X0
  refine g_iload_n X 2 dX8_does_11 rfl ?_
  refine g_bipush X dX8_does_12 (by decide +kernel) ?_
  refine g_icmp_ge X (tgt := 31) dX8_does_14 (by decide) h32v2 (by omega) (fun c1 => ?_) (fun c1 => ?_)
  · have h := h.1 c1
    refine g_aload_n X 0 dX8_does_31 rfl ?_
    refine g_dup X dX8_does_32 rfl ?_
    refine g_getI X (z := 10) dX8_does_33 lf_X8_178 rfl rfl rfl ?_
    refine g_iconst X dX8_does_36 ?_
    refine g_isub X dX8_does_37 ?_
    refine g_putI X (j := 10) (z := 10) dX8_does_38 lp_X8_178 rfl rfl rfl ?_
    refine g_aload_n X 0 dX8_does_41 rfl ?_
    refine g_getF X (f := 81) dX8_does_42 lf_X8_37 rfl rfl rfl ?_
    refine g_aload_n X 0 dX8_does_45 rfl ?_
    refine g_getI X (z := 10) dX8_does_46 lf_X8_178 rfl rfl rfl ?_
    refine g_iload_n X 1 dX8_does_49 rfl ?_
    obtain ⟨q2, h⟩ := h
    refine g_iast X dX8_does_50 rfl q2.1 q2.2 ?_
    refine g_iconst X dX8_does_51 ?_
    refine g_istore_n X (lv' := [(2, .int (iI 0)), (0, .ref 72), (1, .int (iI v1))]) dX8_does_52 (by decide) rfl ?_
    exact g_sub (lv' := [(0, .ref 72), (1, .int (iI v1)), (2, .int (iI 0))]) [1, 2, 0] rfl (h p l e s m args below meth c D cA ad X0 hr hlk)
  · have h := h.2 c1
    refine g_aload_n X 0 dX8_does_17 rfl ?_
    refine g_iload_n X 2 dX8_does_18 rfl ?_
    refine g_iload_n X 2 dX8_does_19 rfl ?_
    refine g_iconst X dX8_does_20 ?_
    refine g_isub X dX8_does_21 ?_
    refine g_cVV X (K := K_X8_moves) [.int (iI v2), .int (iI (v2 - 1))] [] dX8_does_22 lv_X8_182 rm_X8_does_X8_moves ⟨by decide, by decide⟩ adA_id rfl rfl rfl (Nat.le_of_ble_eq_true rfl) rfl h (fun s3 h => ?_)
    refine g_iinc X (x := v2) (lv' := [(2, .int (iI (v2 + 1))), (0, .ref 72), (1, .int (iI v1))]) 2 dX8_does_25 rfl (by decide) rfl ?_
    refine g_goto X (tgt := 11) dX8_does_28 (by decide) ?_
    exact g_sub (lv' := [(0, .ref 72), (1, .int (iI v1)), (2, .int (iI (v2 + 1)))]) [1, 2, 0] rfl (h p l e s m args below meth c D cA ad X0 hr hlk)
theorem bX8_goes_0 {v1 : Int} {v2 : Int} {v3 : Int} {σ : ASt} {Q : ASt → Prop} (h32v2 : i32 v2) (h : ((0 : Int) ≤ v1 ∧ v1 < 6) ∧ ((0 : Int) ≤ (((50 * v1) + v2) + 1) ∧ (((50 * v1) + v2) + 1) < 300) ∧ ((0 : Int) ≤ ((50 * v1) + v2) ∧ ((50 * v1) + v2) < 300) ∧ ((v2 ≠ 0 → EvI K_X8_step [.ref 72, .int (iI (gI σ 78 v1)), .int (iI v2)] (sI σ 79 (((50 * v1) + v2) + 1) ((gI σ 79 (((50 * v1) + v2) + 1)) - v3)) (fun x6 s5 => ((v2 ≤ 0 → Q (sI s5 79 ((50 * v1) + v2) ((gI (sI σ 79 (((50 * v1) + v2) + 1) ((gI σ 79 (((50 * v1) + v2) + 1)) - v3)) 79 ((50 * v1) + v2)) + (v3 * x6)))) ∧ (0 < v2 → ((0 : Int) ≤ (((50 * v1) + v2) - 1) ∧ (((50 * v1) + v2) - 1) < 300) ∧ Q (sI (sI s5 79 ((50 * v1) + v2) ((gI (sI σ 79 (((50 * v1) + v2) + 1) ((gI σ 79 (((50 * v1) + v2) + 1)) - v3)) 79 ((50 * v1) + v2)) + (v3 * x6))) 79 (((50 * v1) + v2) - 1) ((gI (sI s5 79 ((50 * v1) + v2) ((gI (sI σ 79 (((50 * v1) + v2) + 1) ((gI σ 79 (((50 * v1) + v2) + 1)) - v3)) 79 ((50 * v1) + v2)) + (v3 * x6))) 79 (((50 * v1) + v2) - 1)) + v3)))))) ∧ (v2 = 0 → EvL K_X8_worth [.ref 72, .int (iI (gI σ 78 v1)), .int (iI 1)] (sI σ 79 (((50 * v1) + v2) + 1) ((gI σ 79 (((50 * v1) + v2) + 1)) - v3)) (fun x11 s10 => ((v2 ≤ 0 → Q (sI s10 79 ((50 * v1) + v2) ((gI (sI σ 79 (((50 * v1) + v2) + 1) ((gI σ 79 (((50 * v1) + v2) + 1)) - v3)) 79 ((50 * v1) + v2)) + (v3 * x11)))) ∧ (0 < v2 → ((0 : Int) ≤ (((50 * v1) + v2) - 1) ∧ (((50 * v1) + v2) - 1) < 300) ∧ Q (sI (sI s10 79 ((50 * v1) + v2) ((gI (sI σ 79 (((50 * v1) + v2) + 1) ((gI σ 79 (((50 * v1) + v2) + 1)) - v3)) 79 ((50 * v1) + v2)) + (v3 * x11))) 79 (((50 * v1) + v2) - 1) ((gI (sI s10 79 ((50 * v1) + v2) ((gI (sI σ 79 (((50 * v1) + v2) + 1) ((gI σ 79 (((50 * v1) + v2) + 1)) - v3)) 79 ((50 * v1) + v2)) + (v3 * x11))) 79 (((50 * v1) + v2) - 1)) + v3)))))))) : Wx K_X8_goes (QV Q) 0 [(0, .ref 72), (1, .int (iI v1)), (2, .int (iI v2)), (3, .int (iI v3))] [] σ := by
  intro p l e s m args below meth c D cA ad X0 hr hlk
  have X : Cx p s m args c (adA ad) D cA ad RX8 cX8_goes 5 := X0
  refine g_aload_n X 0 dX8_goes_0 rfl ?_
  refine g_getF X (f := 78) dX8_goes_1 lf_X8_28 rfl rfl rfl ?_
  refine g_iload_n X 1 dX8_goes_4 rfl ?_
  obtain ⟨q1, h⟩ := h
  refine g_iald X dX8_goes_5 rfl q1.1 q1.2 ?_
  refine g_istore X (lv' := [(4, .int (iI (gI σ 78 v1))), (0, .ref 72), (1, .int (iI v1)), (2, .int (iI v2)), (3, .int (iI v3))]) dX8_goes_6 (by decide) rfl ?_
  refine g_aload_n X 1 dX8_goes_8 rfl ?_
  refine g_getF X (f := 79) dX8_goes_9 lf_X8_31 rfl rfl rfl ?_
  refine g_bipush X dX8_goes_12 (by decide +kernel) ?_
  refine g_iload_n X 2 dX8_goes_14 rfl ?_
  refine g_imul X dX8_goes_15 ?_
  refine g_iload_n X 3 dX8_goes_16 rfl ?_
  refine g_iadd X dX8_goes_17 ?_
  refine g_iconst X dX8_goes_18 ?_
  refine g_iadd X dX8_goes_19 ?_
  refine g_dup2 X dX8_goes_20 rfl rfl ?_
  obtain ⟨q2, h⟩ := h
  refine g_iald X dX8_goes_21 rfl q2.1 q2.2 ?_
  refine g_iload_n X 4 dX8_goes_22 rfl ?_
  refine g_isub X dX8_goes_23 ?_
  refine g_iast X dX8_goes_24 rfl q2.1 q2.2 ?_
  refine g_aload_n X 1 dX8_goes_25 rfl ?_
  refine g_getF X (f := 79) dX8_goes_26 lf_X8_31 rfl rfl rfl ?_
  refine g_bipush X dX8_goes_29 (by decide +kernel) ?_
  refine g_iload_n X 2 dX8_goes_31 rfl ?_
  refine g_imul X dX8_goes_32 ?_
  refine g_iload_n X 3 dX8_goes_33 rfl ?_
  refine g_iadd X dX8_goes_34 ?_
  refine g_dup2 X dX8_goes_35 rfl rfl ?_
  obtain ⟨q3, h⟩ := h
  refine g_iald X dX8_goes_36 rfl q3.1 q3.2 ?_
  refine g_iload_n X 4 dX8_goes_37 rfl ?_
  refine g_iload_n X 3 dX8_goes_38 rfl ?_
  refine g_if_ne X (tgt := 53) dX8_goes_39 (by decide) h32v2 (fun c4 => ?_) (fun c4 => ?_)
  · have h := h.1 c4
    refine g_aload_n X 1 dX8_goes_53 rfl ?_
    refine g_iload X 0 dX8_goes_54 rfl ?_
    refine g_iload_n X 3 dX8_goes_56 rfl ?_
    refine g_cVI X (K := K_X8_step) [.int (iI (gI σ 78 v1)), .int (iI v2)] [.int (iI v3), .int (iI (gI (sI σ 79 (((50 * v1) + v2) + 1) ((gI σ 79 (((50 * v1) + v2) + 1)) - v3)) 79 ((50 * v1) + v2))), .int (iI ((50 * v1) + v2)), .ref 79] dX8_goes_57 lv_X8_110 rm_X8_goes_X8_step ⟨by decide, by decide⟩ adA_id rfl rfl rfl (Nat.le_of_ble_eq_true rfl) rfl h (fun x6 s5 q7 h => ?_)
    refine g_imul X dX8_goes_60 ?_
    refine g_iadd X dX8_goes_61 ?_
    refine g_iast X dX8_goes_62 rfl q3.1 q3.2 ?_
    refine g_iload_n X 3 dX8_goes_63 rfl ?_
    refine g_if_le X (tgt := 84) dX8_goes_64 (by decide) h32v2 (fun c8 => ?_) (fun c8 => ?_)
    · have h := h.1 c8
      exact g_vret X hr hlk dX8_goes_84 ⟨rfl, h⟩
    · have h := h.2 c8
      refine g_aload_n X 1 dX8_goes_67 rfl ?_
      refine g_getF X (f := 79) dX8_goes_68 lf_X8_31 rfl rfl rfl ?_
      refine g_bipush X dX8_goes_71 (by decide +kernel) ?_
      refine g_iload_n X 2 dX8_goes_73 rfl ?_
      refine g_imul X dX8_goes_74 ?_
      refine g_iload_n X 3 dX8_goes_75 rfl ?_
      refine g_iadd X dX8_goes_76 ?_
      refine g_iconst X dX8_goes_77 ?_
      refine g_isub X dX8_goes_78 ?_
      refine g_dup2 X dX8_goes_79 rfl rfl ?_
      obtain ⟨q9, h⟩ := h
      refine g_iald X dX8_goes_80 rfl q9.1 q9.2 ?_
      refine g_iload_n X 4 dX8_goes_81 rfl ?_
      refine g_iadd X dX8_goes_82 ?_
      refine g_iast X dX8_goes_83 rfl q9.1 q9.2 ?_
      exact g_vret X hr hlk dX8_goes_84 ⟨rfl, h⟩
  · have h := h.2 c4
    refine g_aload_n X 1 dX8_goes_42 rfl ?_
    refine g_iload X 0 dX8_goes_43 rfl ?_
    refine g_iconst X dX8_goes_45 ?_
    refine g_cVL X (K := K_X8_worth) [.int (iI (gI σ 78 v1)), .int (iI 1)] [.int (iI v3), .int (iI (gI (sI σ 79 (((50 * v1) + v2) + 1) ((gI σ 79 (((50 * v1) + v2) + 1)) - v3)) 79 ((50 * v1) + v2))), .int (iI ((50 * v1) + v2)), .ref 79] dX8_goes_46 lv_X8_129 rm_X8_goes_X8_worth ⟨by decide, by decide⟩ adA_id rfl rfl rfl (Nat.le_of_ble_eq_true rfl) rfl h (fun x11 s10 q12 h => ?_)
    refine g_l2i X dX8_goes_49 ?_
    refine g_goto X (tgt := 60) dX8_goes_50 (by decide) ?_
    refine g_imul X dX8_goes_60 ?_
    refine g_iadd X dX8_goes_61 ?_
    refine g_iast X dX8_goes_62 rfl q3.1 q3.2 ?_
    refine g_iload_n X 3 dX8_goes_63 rfl ?_
    refine g_if_le X (tgt := 84) dX8_goes_64 (by decide) h32v2 (fun c13 => ?_) (fun c13 => ?_)
    · have h := h.1 c13
      exact g_vret X hr hlk dX8_goes_84 ⟨rfl, h⟩
    · have h := h.2 c13
      refine g_aload_n X 1 dX8_goes_67 rfl ?_
      refine g_getF X (f := 79) dX8_goes_68 lf_X8_31 rfl rfl rfl ?_
      refine g_bipush X dX8_goes_71 (by decide +kernel) ?_
      refine g_iload_n X 2 dX8_goes_73 rfl ?_
      refine g_imul X dX8_goes_74 ?_
      refine g_iload_n X 3 dX8_goes_75 rfl ?_
      refine g_iadd X dX8_goes_76 ?_
      refine g_iconst X dX8_goes_77 ?_
      refine g_isub X dX8_goes_78 ?_
      refine g_dup2 X dX8_goes_79 rfl rfl ?_
      obtain ⟨q14, h⟩ := h
      refine g_iald X dX8_goes_80 rfl q14.1 q14.2 ?_
      refine g_iload_n X 4 dX8_goes_81 rfl ?_
      refine g_iadd X dX8_goes_82 ?_
      refine g_iast X dX8_goes_83 rfl q14.1 q14.2 ?_
      exact g_vret X hr hlk dX8_goes_84 ⟨rfl, h⟩
theorem eX8_goes {v1 : Int} {v2 : Int} {v3 : Int} {σ : ASt} {Q : ASt → Prop} (h32v2 : i32 v2) (h : ((0 : Int) ≤ v1 ∧ v1 < 6) ∧ ((0 : Int) ≤ (((50 * v1) + v2) + 1) ∧ (((50 * v1) + v2) + 1) < 300) ∧ ((0 : Int) ≤ ((50 * v1) + v2) ∧ ((50 * v1) + v2) < 300) ∧ ((v2 ≠ 0 → EvI K_X8_step [.ref 72, .int (iI (gI σ 78 v1)), .int (iI v2)] (sI σ 79 (((50 * v1) + v2) + 1) ((gI σ 79 (((50 * v1) + v2) + 1)) - v3)) (fun x6 s5 => ((v2 ≤ 0 → Q (sI s5 79 ((50 * v1) + v2) ((gI (sI σ 79 (((50 * v1) + v2) + 1) ((gI σ 79 (((50 * v1) + v2) + 1)) - v3)) 79 ((50 * v1) + v2)) + (v3 * x6)))) ∧ (0 < v2 → ((0 : Int) ≤ (((50 * v1) + v2) - 1) ∧ (((50 * v1) + v2) - 1) < 300) ∧ Q (sI (sI s5 79 ((50 * v1) + v2) ((gI (sI σ 79 (((50 * v1) + v2) + 1) ((gI σ 79 (((50 * v1) + v2) + 1)) - v3)) 79 ((50 * v1) + v2)) + (v3 * x6))) 79 (((50 * v1) + v2) - 1) ((gI (sI s5 79 ((50 * v1) + v2) ((gI (sI σ 79 (((50 * v1) + v2) + 1) ((gI σ 79 (((50 * v1) + v2) + 1)) - v3)) 79 ((50 * v1) + v2)) + (v3 * x6))) 79 (((50 * v1) + v2) - 1)) + v3)))))) ∧ (v2 = 0 → EvL K_X8_worth [.ref 72, .int (iI (gI σ 78 v1)), .int (iI 1)] (sI σ 79 (((50 * v1) + v2) + 1) ((gI σ 79 (((50 * v1) + v2) + 1)) - v3)) (fun x11 s10 => ((v2 ≤ 0 → Q (sI s10 79 ((50 * v1) + v2) ((gI (sI σ 79 (((50 * v1) + v2) + 1) ((gI σ 79 (((50 * v1) + v2) + 1)) - v3)) 79 ((50 * v1) + v2)) + (v3 * x11)))) ∧ (0 < v2 → ((0 : Int) ≤ (((50 * v1) + v2) - 1) ∧ (((50 * v1) + v2) - 1) < 300) ∧ Q (sI (sI s10 79 ((50 * v1) + v2) ((gI (sI σ 79 (((50 * v1) + v2) + 1) ((gI σ 79 (((50 * v1) + v2) + 1)) - v3)) 79 ((50 * v1) + v2)) + (v3 * x11))) 79 (((50 * v1) + v2) - 1) ((gI (sI s10 79 ((50 * v1) + v2) ((gI (sI σ 79 (((50 * v1) + v2) + 1) ((gI σ 79 (((50 * v1) + v2) + 1)) - v3)) 79 ((50 * v1) + v2)) + (v3 * x11))) 79 (((50 * v1) + v2) - 1)) + v3)))))))) : EvV K_X8_goes [.ref 72, .int (iI v1), .int (iI v2), .int (iI v3)] σ Q := Ev.of rfl (Nat.le_of_ble_eq_true rfl) rfl (bX8_goes_0 h32v2 h)
theorem bX8_borrow_0 {v1 : Int} {v2 : Int} {σ : ASt} {Q : Int → ASt → Prop}  (h : EvI K_X8_refusal_ [.ref 72, .int (iI v1), .int (iI v2), .int (iI 2)] σ (fun x2 s1 => ((x2 = 0 → EvZ K_X8_can [.ref 72, .int (iI v1), .int (iI v2), .int (iI 1)] s1 (fun s5 => EvV K_X8_does [.ref 72, .int (iI v1)] s5 (fun s6 => EvV K_X8_goes [.ref 72, .int (iI v1), .int (iI v2), .int (iI 1)] s6 (fun s7 => EvI K_X8_digitAt [.ref 72, .int (iI v1), .int (iI v2)] s7 (fun x9 s8 => Q x9 s8)))) (fun s5 => Q (-3) s5)) ∧ (x2 ≠ 0 → Q x2 s1)))) : Wx K_X8_borrow (QI Q) 0 [(0, .ref 72), (1, .int (iI v1)), (2, .int (iI v2))] [] σ := by
  intro p l e s m args below meth c D cA ad X0 hr hlk
  have X : Cx p s m args c (adA ad) D cA ad RX8 cX8_borrow 4 := X0
  refine g_aload_n X 0 dX8_borrow_0 rfl ?_
  refine g_iload_n X 1 dX8_borrow_1 rfl ?_
  refine g_iload_n X 2 dX8_borrow_2 rfl ?_
  refine g_iconst X dX8_borrow_3 ?_
  refine g_cVI X (K := K_X8_refusal_) [.int (iI v1), .int (iI v2), .int (iI 2)] [] dX8_borrow_4 lv_X8_171 rm_X8_borrow_X8_refusal_ ⟨by decide, by decide⟩ adA_id rfl rfl rfl (Nat.le_of_ble_eq_true rfl) rfl h (fun x2 s1 q3 h => ?_)
  refine g_istore_n X (lv' := [(3, .int (iI x2)), (0, .ref 72), (1, .int (iI v1)), (2, .int (iI v2))]) dX8_borrow_7 (by decide) rfl ?_
  refine g_iload_n X 0 dX8_borrow_8 rfl ?_
  refine g_if_eq X (tgt := 14) dX8_borrow_9 (by decide) q3 (fun c4 => ?_) (fun c4 => ?_)
  · have h := h.1 c4
    refine g_aload_n X 1 dX8_borrow_14 rfl ?_
    refine g_iload_n X 2 dX8_borrow_15 rfl ?_
    refine g_iload_n X 3 dX8_borrow_16 rfl ?_
    refine g_iconst X dX8_borrow_17 ?_
    refine g_cVZ X (K := K_X8_can) [.int (iI v1), .int (iI v2), .int (iI 1)] [] dX8_borrow_18 lv_X8_191 rm_X8_borrow_X8_can ⟨by decide, by decide⟩ adA_id rfl rfl rfl (Nat.le_of_ble_eq_true rfl) rfl h (fun s5 h => ?_) (fun s5 h => ?_)
    · skip
      refine g_if_ne X (tgt := 27) dX8_borrow_21 (by decide) (by omega) (fun _ => ?_) (fun hc => absurd hc (by decide))
      refine g_aload_n X 1 dX8_borrow_27 rfl ?_
      refine g_iload_n X 2 dX8_borrow_28 rfl ?_
      refine g_cVV X (K := K_X8_does) [.int (iI v1)] [] dX8_borrow_29 lv_X8_188 rm_X8_borrow_X8_does ⟨by decide, by decide⟩ adA_id rfl rfl rfl (Nat.le_of_ble_eq_true rfl) rfl h (fun s6 h => ?_)
      refine g_aload_n X 1 dX8_borrow_32 rfl ?_
      refine g_iload_n X 2 dX8_borrow_33 rfl ?_
      refine g_iload_n X 3 dX8_borrow_34 rfl ?_
      refine g_iconst X dX8_borrow_35 ?_
      refine g_cVV X (K := K_X8_goes) [.int (iI v1), .int (iI v2), .int (iI 1)] [] dX8_borrow_36 lv_X8_195 rm_X8_borrow_X8_goes ⟨by decide, by decide⟩ adA_id rfl rfl rfl (Nat.le_of_ble_eq_true rfl) rfl h (fun s7 h => ?_)
      refine g_aload_n X 1 dX8_borrow_39 rfl ?_
      refine g_iload_n X 2 dX8_borrow_40 rfl ?_
      refine g_iload_n X 3 dX8_borrow_41 rfl ?_
      refine g_cVI X (K := K_X8_digitAt) [.int (iI v1), .int (iI v2)] [] dX8_borrow_42 lv_X8_140 rm_X8_borrow_X8_digitAt ⟨by decide, by decide⟩ adA_id rfl rfl rfl (Nat.le_of_ble_eq_true rfl) rfl h (fun x9 s8 q10 h => ?_)
      exact g_iret X hr hlk dX8_borrow_45 rfl ⟨_, rfl, q10, h⟩
    · skip
      refine g_if_ne X (tgt := 27) dX8_borrow_21 (by decide) (by omega) (fun hc => absurd hc (by decide)) (fun _ => ?_)
      refine g_bipush X dX8_borrow_24 (by decide +kernel) ?_
      exact g_iret X hr hlk dX8_borrow_26 rfl ⟨_, rfl, (by omega), h⟩
  · have h := h.2 c4
    refine g_iload_n X 0 dX8_borrow_12 rfl ?_
    exact g_iret X hr hlk dX8_borrow_13 rfl ⟨_, rfl, q3, h⟩
theorem eX8_borrow {v1 : Int} {v2 : Int} {σ : ASt} {Q : Int → ASt → Prop}  (h : EvI K_X8_refusal_ [.ref 72, .int (iI v1), .int (iI v2), .int (iI 2)] σ (fun x2 s1 => ((x2 = 0 → EvZ K_X8_can [.ref 72, .int (iI v1), .int (iI v2), .int (iI 1)] s1 (fun s5 => EvV K_X8_does [.ref 72, .int (iI v1)] s5 (fun s6 => EvV K_X8_goes [.ref 72, .int (iI v1), .int (iI v2), .int (iI 1)] s6 (fun s7 => EvI K_X8_digitAt [.ref 72, .int (iI v1), .int (iI v2)] s7 (fun x9 s8 => Q x9 s8)))) (fun s5 => Q (-3) s5)) ∧ (x2 ≠ 0 → Q x2 s1)))) : EvI K_X8_borrow [.ref 72, .int (iI v1), .int (iI v2)] σ Q := Ev.of rfl (Nat.le_of_ble_eq_true rfl) rfl (bX8_borrow_0  h)
theorem bX8_carry_0 {v1 : Int} {v2 : Int} {σ : ASt} {Q : Int → ASt → Prop}  (h : EvI K_X8_refusal_ [.ref 72, .int (iI v1), .int (iI v2), .int (iI 2)] σ (fun x2 s1 => ((x2 = 0 → EvZ K_X8_can [.ref 72, .int (iI v1), .int (iI v2), .int (iI (-1))] s1 (fun s5 => EvV K_X8_does [.ref 72, .int (iI v1)] s5 (fun s6 => EvV K_X8_goes [.ref 72, .int (iI v1), .int (iI v2), .int (iI (-1))] s6 (fun s7 => EvI K_X8_digitAt [.ref 72, .int (iI v1), .int (iI (v2 + 1))] s7 (fun x9 s8 => Q x9 s8)))) (fun s5 => Q (-3) s5)) ∧ (x2 ≠ 0 → Q x2 s1)))) : Wx K_X8_carry (QI Q) 0 [(0, .ref 72), (1, .int (iI v1)), (2, .int (iI v2))] [] σ := by
  intro p l e s m args below meth c D cA ad X0 hr hlk
  have X : Cx p s m args c (adA ad) D cA ad RX8 cX8_carry 4 := X0
  refine g_aload_n X 0 dX8_carry_0 rfl ?_
  refine g_iload_n X 1 dX8_carry_1 rfl ?_
  refine g_iload_n X 2 dX8_carry_2 rfl ?_
  refine g_iconst X dX8_carry_3 ?_
  refine g_cVI X (K := K_X8_refusal_) [.int (iI v1), .int (iI v2), .int (iI 2)] [] dX8_carry_4 lv_X8_171 rm_X8_carry_X8_refusal_ ⟨by decide, by decide⟩ adA_id rfl rfl rfl (Nat.le_of_ble_eq_true rfl) rfl h (fun x2 s1 q3 h => ?_)
  refine g_istore_n X (lv' := [(3, .int (iI x2)), (0, .ref 72), (1, .int (iI v1)), (2, .int (iI v2))]) dX8_carry_7 (by decide) rfl ?_
  refine g_iload_n X 0 dX8_carry_8 rfl ?_
  refine g_if_eq X (tgt := 14) dX8_carry_9 (by decide) q3 (fun c4 => ?_) (fun c4 => ?_)
  · have h := h.1 c4
    refine g_aload_n X 1 dX8_carry_14 rfl ?_
    refine g_iload_n X 2 dX8_carry_15 rfl ?_
    refine g_iload_n X 3 dX8_carry_16 rfl ?_
    refine g_iconst X dX8_carry_17 ?_
    refine g_cVZ X (K := K_X8_can) [.int (iI v1), .int (iI v2), .int (iI (-1))] [] dX8_carry_18 lv_X8_191 rm_X8_carry_X8_can ⟨by decide, by decide⟩ adA_id rfl rfl rfl (Nat.le_of_ble_eq_true rfl) rfl h (fun s5 h => ?_) (fun s5 h => ?_)
    · skip
      refine g_if_ne X (tgt := 27) dX8_carry_21 (by decide) (by omega) (fun _ => ?_) (fun hc => absurd hc (by decide))
      refine g_aload_n X 1 dX8_carry_27 rfl ?_
      refine g_iload_n X 2 dX8_carry_28 rfl ?_
      refine g_cVV X (K := K_X8_does) [.int (iI v1)] [] dX8_carry_29 lv_X8_188 rm_X8_carry_X8_does ⟨by decide, by decide⟩ adA_id rfl rfl rfl (Nat.le_of_ble_eq_true rfl) rfl h (fun s6 h => ?_)
      refine g_aload_n X 1 dX8_carry_32 rfl ?_
      refine g_iload_n X 2 dX8_carry_33 rfl ?_
      refine g_iload_n X 3 dX8_carry_34 rfl ?_
      refine g_iconst X dX8_carry_35 ?_
      refine g_cVV X (K := K_X8_goes) [.int (iI v1), .int (iI v2), .int (iI (-1))] [] dX8_carry_36 lv_X8_195 rm_X8_carry_X8_goes ⟨by decide, by decide⟩ adA_id rfl rfl rfl (Nat.le_of_ble_eq_true rfl) rfl h (fun s7 h => ?_)
      refine g_aload_n X 1 dX8_carry_39 rfl ?_
      refine g_iload_n X 2 dX8_carry_40 rfl ?_
      refine g_iload_n X 3 dX8_carry_41 rfl ?_
      refine g_iconst X dX8_carry_42 ?_
      refine g_iadd X dX8_carry_43 ?_
      refine g_cVI X (K := K_X8_digitAt) [.int (iI v1), .int (iI (v2 + 1))] [] dX8_carry_44 lv_X8_140 rm_X8_carry_X8_digitAt ⟨by decide, by decide⟩ adA_id rfl rfl rfl (Nat.le_of_ble_eq_true rfl) rfl h (fun x9 s8 q10 h => ?_)
      exact g_iret X hr hlk dX8_carry_47 rfl ⟨_, rfl, q10, h⟩
    · skip
      refine g_if_ne X (tgt := 27) dX8_carry_21 (by decide) (by omega) (fun hc => absurd hc (by decide)) (fun _ => ?_)
      refine g_bipush X dX8_carry_24 (by decide +kernel) ?_
      exact g_iret X hr hlk dX8_carry_26 rfl ⟨_, rfl, (by omega), h⟩
  · have h := h.2 c4
    refine g_iload_n X 0 dX8_carry_12 rfl ?_
    exact g_iret X hr hlk dX8_carry_13 rfl ⟨_, rfl, q3, h⟩
theorem eX8_carry {v1 : Int} {v2 : Int} {σ : ASt} {Q : Int → ASt → Prop}  (h : EvI K_X8_refusal_ [.ref 72, .int (iI v1), .int (iI v2), .int (iI 2)] σ (fun x2 s1 => ((x2 = 0 → EvZ K_X8_can [.ref 72, .int (iI v1), .int (iI v2), .int (iI (-1))] s1 (fun s5 => EvV K_X8_does [.ref 72, .int (iI v1)] s5 (fun s6 => EvV K_X8_goes [.ref 72, .int (iI v1), .int (iI v2), .int (iI (-1))] s6 (fun s7 => EvI K_X8_digitAt [.ref 72, .int (iI v1), .int (iI (v2 + 1))] s7 (fun x9 s8 => Q x9 s8)))) (fun s5 => Q (-3) s5)) ∧ (x2 ≠ 0 → Q x2 s1)))) : EvI K_X8_carry [.ref 72, .int (iI v1), .int (iI v2)] σ Q := Ev.of rfl (Nat.le_of_ble_eq_true rfl) rfl (bX8_carry_0  h)
theorem bX8_comes_0 {v0 : Int} {v2 : Int} {v4 : Int} {v5 : Int} {σ : ASt} {Q : Int → ASt → Prop} (h32v4 : i32 v4) (h64v0 : i64 v0) (h64v2 : i64 v2) (h64v5 : i64 v5) (h : ((v4 ≠ 1 → ((v4 ≠ 2 → ((v2 ≠ 0 → ((v4 ≠ 3 → v2 ≠ 0 ∧ i64 ((Int.tmod v0 v2)) ∧ Q (Int.tmod v0 v2) σ) ∧ (v4 = 3 → v2 ≠ 0 ∧ i64 ((Int.tdiv v0 v2)) ∧ Q (Int.tdiv v0 v2) σ))) ∧ (v2 = 0 → Q (-1) σ))) ∧ (v4 = 2 → ((v0 = 0 → i64 ((v0 * v2)) ∧ Q (v0 * v2) σ) ∧ (v0 ≠ 0 → v0 ≠ 0 ∧ i64 ((Int.tdiv v5 v0)) ∧ ((v2 ≤ (Int.tdiv v5 v0) → i64 ((v0 * v2)) ∧ Q (v0 * v2) σ) ∧ ((Int.tdiv v5 v0) < v2 → Q (-1) σ))))))) ∧ (v4 = 1 → i64 ((v0 - v2)) ∧ Q (v0 - v2) σ))) : Wx K_X8_comes (QL Q) 0 [(0, .long (lI v0)), (2, .long (lI v2)), (4, .int (iI v4)), (5, .long (lI v5))] [] σ := by
  intro p l e s m args below meth c D cA ad X0 hr hlk
  have X : Cx p s m args c (adA ad) D cA ad RX8 cX8_comes 7 := X0
  refine g_iload X 2 dX8_comes_0 rfl ?_
  refine g_iconst X dX8_comes_2 ?_
  refine g_icmp_ne X (tgt := 10) dX8_comes_3 (by decide) h32v4 (by omega) (fun c1 => ?_) (fun c1 => ?_)
  · have h := h.1 c1
    refine g_iload X 2 dX8_comes_10 rfl ?_
    refine g_iconst X dX8_comes_12 ?_
    refine g_icmp_ne X (tgt := 41) dX8_comes_13 (by decide) h32v4 (by omega) (fun c2 => ?_) (fun c2 => ?_)
    · have h := h.1 c2
      refine g_lload_n X 1 dX8_comes_41 rfl ?_
      refine g_lconst X (z := 0) dX8_comes_42 (by decide +kernel) ?_
      refine g_lc_ne X (tgt := 53) dX8_comes_43 dX8_comes_44 (by decide) h64v2 (by omega) (fun c3 => ?_) (fun c3 => ?_)
      · have h := h.1 c3
        refine g_iload X 2 dX8_comes_53 rfl ?_
        refine g_iconst X dX8_comes_55 ?_
        refine g_icmp_ne X (tgt := 65) dX8_comes_56 (by decide) h32v4 (by omega) (fun c4 => ?_) (fun c4 => ?_)
        · have h := h.1 c4
          refine g_lload_n X 0 dX8_comes_65 rfl ?_
          refine g_lload_n X 1 dX8_comes_66 rfl ?_
          obtain ⟨q5, h⟩ := h
          refine g_lrem X dX8_comes_67 h64v0 h64v2 q5 ?_
          obtain ⟨q6, h⟩ := h
          exact g_lret X hr hlk dX8_comes_68 ⟨_, rfl, q6, h⟩
        · have h := h.2 c4
          refine g_lload_n X 0 dX8_comes_59 rfl ?_
          refine g_lload_n X 1 dX8_comes_60 rfl ?_
          obtain ⟨q7, h⟩ := h
          refine g_ldiv X dX8_comes_61 h64v0 h64v2 q7 ?_
          refine g_goto X (tgt := 68) dX8_comes_62 (by decide) ?_
          obtain ⟨q8, h⟩ := h
          exact g_lret X hr hlk dX8_comes_68 ⟨_, rfl, q8, h⟩
      · have h := h.2 c3
        refine g_ldc2 X (z := (-1)) dX8_comes_47 lc_X8_207 (by decide +kernel) ?_
        refine g_goto X (tgt := 68) dX8_comes_50 (by decide) ?_
        exact g_lret X hr hlk dX8_comes_68 ⟨_, rfl, (by omega), h⟩
    · have h := h.2 c2
      refine g_lload_n X 0 dX8_comes_16 rfl ?_
      refine g_lconst X (z := 0) dX8_comes_17 (by decide +kernel) ?_
      refine g_lc_eq X (tgt := 37) dX8_comes_18 dX8_comes_19 (by decide) h64v0 (by omega) (fun c9 => ?_) (fun c9 => ?_)
      · have h := h.1 c9
        refine g_lload_n X 0 dX8_comes_37 rfl ?_
        refine g_lload_n X 1 dX8_comes_38 rfl ?_
        refine g_lmul X dX8_comes_39 ?_
        obtain ⟨q10, h⟩ := h
        exact g_lret X hr hlk dX8_comes_40 ⟨_, rfl, q10, h⟩
      · have h := h.2 c9
        refine g_lload_n X 1 dX8_comes_22 rfl ?_
        refine g_lload X 3 dX8_comes_23 rfl ?_
        refine g_lload_n X 0 dX8_comes_25 rfl ?_
        obtain ⟨q11, h⟩ := h
        refine g_ldiv X dX8_comes_26 h64v5 h64v0 q11 ?_
        obtain ⟨q12, h⟩ := h
        refine g_lc_le X (tgt := 37) dX8_comes_27 dX8_comes_28 (by decide) h64v2 q12 (fun c13 => ?_) (fun c13 => ?_)
        · have h := h.1 c13
          refine g_lload_n X 0 dX8_comes_37 rfl ?_
          refine g_lload_n X 1 dX8_comes_38 rfl ?_
          refine g_lmul X dX8_comes_39 ?_
          obtain ⟨q14, h⟩ := h
          exact g_lret X hr hlk dX8_comes_40 ⟨_, rfl, q14, h⟩
        · have h := h.2 c13
          refine g_ldc2 X (z := (-1)) dX8_comes_31 lc_X8_207 (by decide +kernel) ?_
          refine g_goto X (tgt := 40) dX8_comes_34 (by decide) ?_
          exact g_lret X hr hlk dX8_comes_40 ⟨_, rfl, (by omega), h⟩
  · have h := h.2 c1
    refine g_lload_n X 0 dX8_comes_6 rfl ?_
    refine g_lload_n X 1 dX8_comes_7 rfl ?_
    refine g_lsub X dX8_comes_8 ?_
    obtain ⟨q15, h⟩ := h
    exact g_lret X hr hlk dX8_comes_9 ⟨_, rfl, q15, h⟩
theorem eX8_comes {v0 : Int} {v2 : Int} {v4 : Int} {v5 : Int} {σ : ASt} {Q : Int → ASt → Prop} (h32v4 : i32 v4) (h64v0 : i64 v0) (h64v2 : i64 v2) (h64v5 : i64 v5) (h : ((v4 ≠ 1 → ((v4 ≠ 2 → ((v2 ≠ 0 → ((v4 ≠ 3 → v2 ≠ 0 ∧ i64 ((Int.tmod v0 v2)) ∧ Q (Int.tmod v0 v2) σ) ∧ (v4 = 3 → v2 ≠ 0 ∧ i64 ((Int.tdiv v0 v2)) ∧ Q (Int.tdiv v0 v2) σ))) ∧ (v2 = 0 → Q (-1) σ))) ∧ (v4 = 2 → ((v0 = 0 → i64 ((v0 * v2)) ∧ Q (v0 * v2) σ) ∧ (v0 ≠ 0 → v0 ≠ 0 ∧ i64 ((Int.tdiv v5 v0)) ∧ ((v2 ≤ (Int.tdiv v5 v0) → i64 ((v0 * v2)) ∧ Q (v0 * v2) σ) ∧ ((Int.tdiv v5 v0) < v2 → Q (-1) σ))))))) ∧ (v4 = 1 → i64 ((v0 - v2)) ∧ Q (v0 - v2) σ))) : EvL K_X8_comes [.long (lI v0), .long (lI v2), .int (iI v4), .long (lI v5)] σ Q := Ev.of rfl (Nat.le_of_ble_eq_true rfl) rfl (bX8_comes_0 h32v4 h64v0 h64v2 h64v5 h)
