/-! by program: the block rules of class 8, part 2 -/
theorem bX8_valueOf_0 {v1 : Int} {σ : ASt} {Q : Int → ASt → Prop}  (h : Wx K_X8_valueOf (QL Q) 5 [(0, .ref 72), (1, .int (iI v1)), (2, .long (lI 0)), (4, .int (iI 0))] [] σ) : Wx K_X8_valueOf (QL Q) 0 [(0, .ref 72), (1, .int (iI v1))] [] σ := by
  intro p l e s m args below meth c D cA ad X0 hr hlk
  have X : Cx p s m args c (adA ad) D cA ad RX8 cX8_valueOf 5 := X0
  refine g_lconst X (z := 0) dX8_valueOf_0 (by decide +kernel) ?_
  refine g_lstore_n X (lv' := [(2, .long (lI 0)), (0, .ref 72), (1, .int (iI v1))]) dX8_valueOf_1 (by decide) rfl ?_
  refine g_iconst X dX8_valueOf_2 ?_
  refine g_istore X (lv' := [(4, .int (iI 0)), (2, .long (lI 0)), (0, .ref 72), (1, .int (iI v1))]) dX8_valueOf_3 (by decide) rfl ?_
  exact g_sub (lv' := [(0, .ref 72), (1, .int (iI v1)), (2, .long (lI 0)), (4, .int (iI 0))]) [2, 3, 1, 0] rfl (h p l e s m args below meth c D cA ad X0 hr hlk)
theorem eX8_valueOf {v1 : Int} {σ : ASt} {Q : Int → ASt → Prop}  (h : Wx K_X8_valueOf (QL Q) 5 [(0, .ref 72), (1, .int (iI v1)), (2, .long (lI 0)), (4, .int (iI 0))] [] σ) : EvL K_X8_valueOf [.ref 72, .int (iI v1)] σ Q := Ev.of rfl (Nat.le_of_ble_eq_true rfl) rfl (bX8_valueOf_0  h)
theorem bX8_valueOf_5 {v1 : Int} {v2 : Int} {v4 : Int} {σ : ASt} {Q : Int → ASt → Prop} (h32v4 : i32 v4) (h64v2 : i64 v2) (h : EvI K_X8_high [.ref 72, .int (iI v1)] σ (fun x2 s1 => ((x2 ≤ v4 → Q v2 s1) ∧ (v4 < x2 → EvI K_X8_digitAt [.ref 72, .int (iI v1), .int (iI v4)] s1 (fun x6 s5 => ((0 : Int) ≤ v1 ∧ v1 < 6) ∧ EvL K_X8_worth [.ref 72, .int (iI (gI s5 78 v1)), .int (iI v4)] s5 (fun x10 s9 => Wx K_X8_valueOf (QL Q) 5 [(0, .ref 72), (1, .int (iI v1)), (2, .long (lI (v2 + (x6 * x10)))), (4, .int (iI (v4 + 1)))] [] s9)))))) : Wx K_X8_valueOf (QL Q) 5 [(0, .ref 72), (1, .int (iI v1)), (2, .long (lI v2)), (4, .int (iI v4))] [] σ := by
  intro p l e s m args below meth c D cA ad X0 hr hlk
  have X : Cx p s m args c (adA ad) D cA ad RX8 cX8_valueOf 5 := X0
  refine g_iload X 3 dX8_valueOf_5 rfl ?_
  refine g_aload_n X 0 dX8_valueOf_7 rfl ?_
  refine g_iload_n X 1 dX8_valueOf_8 rfl ?_
  refine g_cVI X (K := K_X8_high) [.int (iI v1)] [.int (iI v4)] dX8_valueOf_9 lv_X8_137 rm_X8_valueOf_X8_high ⟨by decide, by decide⟩ adA_id rfl rfl rfl (Nat.le_of_ble_eq_true rfl) rfl h (fun x2 s1 q3 h => ?_)
  refine g_icmp_ge X (tgt := 45) dX8_valueOf_12 (by decide) h32v4 q3 (fun c4 => ?_) (fun c4 => ?_)
  · have h := h.1 c4
    refine g_lload_n X 2 dX8_valueOf_45 rfl ?_
    exact g_lret X hr hlk dX8_valueOf_46 ⟨_, rfl, h64v2, h⟩
  · have h := h.2 c4
    refine g_lload_n X 2 dX8_valueOf_15 rfl ?_
    refine g_aload_n X 0 dX8_valueOf_16 rfl ?_
    refine g_iload_n X 1 dX8_valueOf_17 rfl ?_
    refine g_iload X 3 dX8_valueOf_18 rfl ?_
    refine g_cVI X (K := K_X8_digitAt) [.int (iI v1), .int (iI v4)] [.long (lI v2)] dX8_valueOf_20 lv_X8_140 rm_X8_valueOf_X8_digitAt ⟨by decide, by decide⟩ adA_id rfl rfl rfl (Nat.le_of_ble_eq_true rfl) rfl h (fun x6 s5 q7 h => ?_)
    refine g_i2l X dX8_valueOf_23 q7 ?_
    refine g_aload_n X 0 dX8_valueOf_24 rfl ?_
    refine g_aload_n X 0 dX8_valueOf_25 rfl ?_
    refine g_getF X (f := 78) dX8_valueOf_26 lf_X8_28 rfl rfl rfl ?_
    refine g_iload_n X 1 dX8_valueOf_29 rfl ?_
    obtain ⟨q8, h⟩ := h
    refine g_iald X dX8_valueOf_30 rfl q8.1 q8.2 ?_
    refine g_iload X 3 dX8_valueOf_31 rfl ?_
    refine g_cVL X (K := K_X8_worth) [.int (iI (gI s5 78 v1)), .int (iI v4)] [.long (lI x6), .long (lI v2)] dX8_valueOf_33 lv_X8_129 rm_X8_valueOf_X8_worth ⟨by decide, by decide⟩ adA_id rfl rfl rfl (Nat.le_of_ble_eq_true rfl) rfl h (fun x10 s9 q11 h => ?_)
    refine g_lmul X dX8_valueOf_36 ?_
    refine g_ladd X dX8_valueOf_37 ?_
    refine g_lstore_n X (lv' := [(2, .long (lI (v2 + (x6 * x10)))), (0, .ref 72), (1, .int (iI v1)), (4, .int (iI v4))]) dX8_valueOf_38 (by decide) rfl ?_
    refine g_iinc X (x := v4) (lv' := [(4, .int (iI (v4 + 1))), (2, .long (lI (v2 + (x6 * x10)))), (0, .ref 72), (1, .int (iI v1))]) 3 dX8_valueOf_39 rfl (by decide) rfl ?_
    refine g_goto X (tgt := 5) dX8_valueOf_42 (by decide) ?_
    exact g_sub (lv' := [(0, .ref 72), (1, .int (iI v1)), (2, .long (lI (v2 + (x6 * x10)))), (4, .int (iI (v4 + 1)))]) [2, 3, 1, 0] rfl (h p l e s m args below meth c D cA ad X0 hr hlk)
theorem bX8_like_0 {v1 : Int} {v2 : Int} {v3 : Int} {σ : ASt} {Q : Int → ASt → Prop} (h32v3 : i32 v3) (h : EvZ K_X8_isReel [.int (iI v1)] σ (fun s1 => EvZ K_X8_isReel [.int (iI v2)] s1 (fun s2 => EvZ K_X8_in [.long (lI v3), .long (lI 0), .long (lI 1)] s2 (fun s3 => EvZ K_X8_isEmpty [.ref 72, .int (iI v1)] s3 (fun s4 => Q (-11) s4) (fun s4 => EvZ K_X8_isEmpty [.ref 72, .int (iI v2)] s4 (fun s5 => Q (-11) s5) (fun s5 => ((v3 ≠ 0 → ((0 : Int) ≤ v1 ∧ v1 < 6) ∧ ((0 : Int) ≤ v2 ∧ v2 < 6) ∧ i32 ((gI s5 78 v1)) ∧ i32 ((gI s5 78 v2)) ∧ (((gI s5 78 v1) ≠ (gI s5 78 v2) → Wx K_X8_like (QI Q) 95 [(0, .ref 72), (1, .int (iI v1)), (2, .int (iI v2)), (4, .int (iI 0)), (5, .int (iI 0))] [] s5) ∧ ((gI s5 78 v1) = (gI s5 78 v2) → Wx K_X8_like (QI Q) 95 [(0, .ref 72), (1, .int (iI v1)), (2, .int (iI v2)), (4, .int (iI 1)), (5, .int (iI 0))] [] s5))) ∧ (v3 = 0 → EvL K_X8_valueOf [.ref 72, .int (iI v1)] s5 (fun x13 s12 => EvL K_X8_valueOf [.ref 72, .int (iI v2)] s12 (fun x16 s15 => ((x13 ≠ x16 → Q 0 s15) ∧ (x13 = x16 → Q 1 s15))))))))) (fun s3 => Q (-2) s3)) (fun s2 => Q (-2) s2)) (fun s1 => Q (-2) s1)) : Wx K_X8_like (QI Q) 0 [(0, .ref 72), (1, .int (iI v1)), (2, .int (iI v2)), (3, .int (iI v3))] [] σ := by
  intro p l e s m args below meth c D cA ad X0 hr hlk
  have X : Cx p s m args c (adA ad) D cA ad RX8 cX8_like 6 := X0
  refine g_iload_n X 1 dX8_like_0 rfl ?_
  refine g_cSZ X (K := K_X8_isReel) [.int (iI v1)] [] dX8_like_1 ls_X8_149 rm_X8_like_X8_isReel ⟨by decide, by decide⟩ adA_id rfl (Nat.le_of_ble_eq_true rfl) rfl h (fun s1 h => ?_) (fun s1 h => ?_)
  · skip
    refine g_if_eq X (tgt := 24) dX8_like_4 (by decide) (by omega) (fun hc => absurd hc (by decide)) (fun _ => ?_)
    refine g_iload_n X 2 dX8_like_7 rfl ?_
    refine g_cSZ X (K := K_X8_isReel) [.int (iI v2)] [] dX8_like_8 ls_X8_149 rm_X8_like_X8_isReel ⟨by decide, by decide⟩ adA_id rfl (Nat.le_of_ble_eq_true rfl) rfl h (fun s2 h => ?_) (fun s2 h => ?_)
    · skip
      refine g_if_eq X (tgt := 24) dX8_like_11 (by decide) (by omega) (fun hc => absurd hc (by decide)) (fun _ => ?_)
      refine g_iload_n X 3 dX8_like_14 rfl ?_
      refine g_i2l X dX8_like_15 h32v3 ?_
      refine g_lconst X (z := 0) dX8_like_16 (by decide +kernel) ?_
      refine g_lconst X (z := 1) dX8_like_17 (by decide +kernel) ?_
      refine g_cSZ X (K := K_X8_in) [.long (lI v3), .long (lI 0), .long (lI 1)] [] dX8_like_18 ls_X8_104 rm_X8_like_X8_in ⟨by decide, by decide⟩ adA_id rfl (Nat.le_of_ble_eq_true rfl) rfl h (fun s3 h => ?_) (fun s3 h => ?_)
      · skip
        refine g_if_ne X (tgt := 27) dX8_like_21 (by decide) (by omega) (fun _ => ?_) (fun hc => absurd hc (by decide))
        refine g_aload_n X 0 dX8_like_27 rfl ?_
        refine g_iload_n X 1 dX8_like_28 rfl ?_
        refine g_cVZ X (K := K_X8_isEmpty) [.int (iI v1)] [] dX8_like_29 lv_X8_159 rm_X8_like_X8_isEmpty ⟨by decide, by decide⟩ adA_id rfl rfl rfl (Nat.le_of_ble_eq_true rfl) rfl h (fun s4 h => ?_) (fun s4 h => ?_)
        · skip
          refine g_if_ne X (tgt := 43) dX8_like_32 (by decide) (by omega) (fun _ => ?_) (fun hc => absurd hc (by decide))
          refine g_bipush X dX8_like_43 (by decide +kernel) ?_
          exact g_iret X hr hlk dX8_like_45 rfl ⟨_, rfl, (by omega), h⟩
        · skip
          refine g_if_ne X (tgt := 43) dX8_like_32 (by decide) (by omega) (fun hc => absurd hc (by decide)) (fun _ => ?_)
          refine g_aload_n X 0 dX8_like_35 rfl ?_
          refine g_iload_n X 2 dX8_like_36 rfl ?_
          refine g_cVZ X (K := K_X8_isEmpty) [.int (iI v2)] [] dX8_like_37 lv_X8_159 rm_X8_like_X8_isEmpty ⟨by decide, by decide⟩ adA_id rfl rfl rfl (Nat.le_of_ble_eq_true rfl) rfl h (fun s5 h => ?_) (fun s5 h => ?_)
          · skip
            refine g_if_eq X (tgt := 46) dX8_like_40 (by decide) (by omega) (fun hc => absurd hc (by decide)) (fun _ => ?_)
            refine g_bipush X dX8_like_43 (by decide +kernel) ?_
            exact g_iret X hr hlk dX8_like_45 rfl ⟨_, rfl, (by omega), h⟩
          · skip
            refine g_if_eq X (tgt := 46) dX8_like_40 (by decide) (by omega) (fun _ => ?_) (fun hc => absurd hc (by decide))
            refine g_iload_n X 3 dX8_like_46 rfl ?_
            refine g_if_ne X (tgt := 70) dX8_like_47 (by decide) h32v3 (fun c6 => ?_) (fun c6 => ?_)
            · have h := h.1 c6
              refine g_aload_n X 0 dX8_like_70 rfl ?_
              refine g_getF X (f := 78) dX8_like_71 lf_X8_28 rfl rfl rfl ?_
              refine g_iload_n X 1 dX8_like_74 rfl ?_
              obtain ⟨q7, h⟩ := h
              refine g_iald X dX8_like_75 rfl q7.1 q7.2 ?_
              refine g_aload_n X 0 dX8_like_76 rfl ?_
              refine g_getF X (f := 78) dX8_like_77 lf_X8_28 rfl rfl rfl ?_
              refine g_iload_n X 2 dX8_like_80 rfl ?_
              obtain ⟨q8, h⟩ := h
              refine g_iald X dX8_like_81 rfl q8.1 q8.2 ?_
              obtain ⟨q9, h⟩ := h
              obtain ⟨q10, h⟩ := h
              refine g_icmp_ne X (tgt := 89) dX8_like_82 (by decide) q9 q10 (fun c11 => ?_) (fun c11 => ?_)
              · have h := h.1 c11
                refine g_iconst X dX8_like_89 ?_
                refine g_istore X (lv' := [(4, .int (iI 0)), (0, .ref 72), (1, .int (iI v1)), (2, .int (iI v2)), (3, .int (iI v3))]) dX8_like_90 (by decide) rfl ?_
                refine g_iconst X dX8_like_92 ?_
                refine g_istore X (lv' := [(5, .int (iI 0)), (4, .int (iI 0)), (0, .ref 72), (1, .int (iI v1)), (2, .int (iI v2)), (3, .int (iI v3))]) dX8_like_93 (by decide) rfl ?_
                exact g_sub (lv' := [(0, .ref 72), (1, .int (iI v1)), (2, .int (iI v2)), (4, .int (iI 0)), (5, .int (iI 0))]) [2, 3, 4, 1, 0] rfl (h p l e s m args below meth c D cA ad X0 hr hlk)
              · have h := h.2 c11
                refine g_iconst X dX8_like_85 ?_
                refine g_goto X (tgt := 90) dX8_like_86 (by decide) ?_
                refine g_istore X (lv' := [(4, .int (iI 1)), (0, .ref 72), (1, .int (iI v1)), (2, .int (iI v2)), (3, .int (iI v3))]) dX8_like_90 (by decide) rfl ?_
                refine g_iconst X dX8_like_92 ?_
                refine g_istore X (lv' := [(5, .int (iI 0)), (4, .int (iI 1)), (0, .ref 72), (1, .int (iI v1)), (2, .int (iI v2)), (3, .int (iI v3))]) dX8_like_93 (by decide) rfl ?_
                exact g_sub (lv' := [(0, .ref 72), (1, .int (iI v1)), (2, .int (iI v2)), (4, .int (iI 1)), (5, .int (iI 0))]) [2, 3, 4, 1, 0] rfl (h p l e s m args below meth c D cA ad X0 hr hlk)
            · have h := h.2 c6
              refine g_aload_n X 0 dX8_like_50 rfl ?_
              refine g_iload_n X 1 dX8_like_51 rfl ?_
              refine g_cVL X (K := K_X8_valueOf) [.int (iI v1)] [] dX8_like_52 lv_X8_174 rm_X8_like_X8_valueOf ⟨by decide, by decide⟩ adA_id rfl rfl rfl (Nat.le_of_ble_eq_true rfl) rfl h (fun x13 s12 q14 h => ?_)
              refine g_aload_n X 0 dX8_like_55 rfl ?_
              refine g_iload_n X 2 dX8_like_56 rfl ?_
              refine g_cVL X (K := K_X8_valueOf) [.int (iI v2)] [.long (lI x13)] dX8_like_57 lv_X8_174 rm_X8_like_X8_valueOf ⟨by decide, by decide⟩ adA_id rfl rfl rfl (Nat.le_of_ble_eq_true rfl) rfl h (fun x16 s15 q17 h => ?_)
              refine g_lc_ne X (tgt := 68) dX8_like_60 dX8_like_61 (by decide) q14 q17 (fun c18 => ?_) (fun c18 => ?_)
              · have h := h.1 c18
                refine g_iconst X dX8_like_68 ?_
                exact g_iret X hr hlk dX8_like_69 rfl ⟨_, rfl, (by omega), h⟩
              · have h := h.2 c18
                refine g_iconst X dX8_like_64 ?_
                refine g_goto X (tgt := 69) dX8_like_65 (by decide) ?_
                exact g_iret X hr hlk dX8_like_69 rfl ⟨_, rfl, (by omega), h⟩
      · skip
        refine g_if_ne X (tgt := 27) dX8_like_21 (by decide) (by omega) (fun hc => absurd hc (by decide)) (fun _ => ?_)
        refine g_bipush X dX8_like_24 (by decide +kernel) ?_
        exact g_iret X hr hlk dX8_like_26 rfl ⟨_, rfl, (by omega), h⟩
    · skip
      refine g_if_eq X (tgt := 24) dX8_like_11 (by decide) (by omega) (fun _ => ?_) (fun hc => absurd hc (by decide))
      refine g_bipush X dX8_like_24 (by decide +kernel) ?_
      exact g_iret X hr hlk dX8_like_26 rfl ⟨_, rfl, (by omega), h⟩
  · skip
    refine g_if_eq X (tgt := 24) dX8_like_4 (by decide) (by omega) (fun _ => ?_) (fun hc => absurd hc (by decide))
    refine g_bipush X dX8_like_24 (by decide +kernel) ?_
    exact g_iret X hr hlk dX8_like_26 rfl ⟨_, rfl, (by omega), h⟩
theorem eX8_like {v1 : Int} {v2 : Int} {v3 : Int} {σ : ASt} {Q : Int → ASt → Prop} (h32v3 : i32 v3) (h : EvZ K_X8_isReel [.int (iI v1)] σ (fun s1 => EvZ K_X8_isReel [.int (iI v2)] s1 (fun s2 => EvZ K_X8_in [.long (lI v3), .long (lI 0), .long (lI 1)] s2 (fun s3 => EvZ K_X8_isEmpty [.ref 72, .int (iI v1)] s3 (fun s4 => Q (-11) s4) (fun s4 => EvZ K_X8_isEmpty [.ref 72, .int (iI v2)] s4 (fun s5 => Q (-11) s5) (fun s5 => ((v3 ≠ 0 → ((0 : Int) ≤ v1 ∧ v1 < 6) ∧ ((0 : Int) ≤ v2 ∧ v2 < 6) ∧ i32 ((gI s5 78 v1)) ∧ i32 ((gI s5 78 v2)) ∧ (((gI s5 78 v1) ≠ (gI s5 78 v2) → Wx K_X8_like (QI Q) 95 [(0, .ref 72), (1, .int (iI v1)), (2, .int (iI v2)), (4, .int (iI 0)), (5, .int (iI 0))] [] s5) ∧ ((gI s5 78 v1) = (gI s5 78 v2) → Wx K_X8_like (QI Q) 95 [(0, .ref 72), (1, .int (iI v1)), (2, .int (iI v2)), (4, .int (iI 1)), (5, .int (iI 0))] [] s5))) ∧ (v3 = 0 → EvL K_X8_valueOf [.ref 72, .int (iI v1)] s5 (fun x13 s12 => EvL K_X8_valueOf [.ref 72, .int (iI v2)] s12 (fun x16 s15 => ((x13 ≠ x16 → Q 0 s15) ∧ (x13 = x16 → Q 1 s15))))))))) (fun s3 => Q (-2) s3)) (fun s2 => Q (-2) s2)) (fun s1 => Q (-2) s1)) : EvI K_X8_like [.ref 72, .int (iI v1), .int (iI v2), .int (iI v3)] σ Q := Ev.of rfl (Nat.le_of_ble_eq_true rfl) rfl (bX8_like_0 h32v3 h)
theorem bX8_like_95 {v1 : Int} {v2 : Int} {v4 : Int} {v5 : Int} {σ : ASt} {Q : Int → ASt → Prop} (h32v4 : i32 v4) (h32v5 : i32 v5) (h : EvI K_X8_high [.ref 72, .int (iI v1)] σ (fun x2 s1 => ((x2 ≤ v5 → ((v4 = 0 → Q 0 s1) ∧ (v4 ≠ 0 → Q 1 s1))) ∧ (v5 < x2 → ((v4 = 0 → ((v4 = 0 → Q 0 s1) ∧ (v4 ≠ 0 → Q 1 s1))) ∧ (v4 ≠ 0 → EvI K_X8_digitAt [.ref 72, .int (iI v1), .int (iI v5)] s1 (fun x9 s8 => EvI K_X8_digitAt [.ref 72, .int (iI v2), .int (iI v5)] s8 (fun x12 s11 => ((x9 ≠ x12 → Wx K_X8_like (QI Q) 95 [(0, .ref 72), (1, .int (iI v1)), (2, .int (iI v2)), (4, .int (iI 0)), (5, .int (iI (v5 + 1)))] [] s11) ∧ (x9 = x12 → Wx K_X8_like (QI Q) 95 [(0, .ref 72), (1, .int (iI v1)), (2, .int (iI v2)), (4, .int (iI 1)), (5, .int (iI (v5 + 1)))] [] s11)))))))))) : Wx K_X8_like (QI Q) 95 [(0, .ref 72), (1, .int (iI v1)), (2, .int (iI v2)), (4, .int (iI v4)), (5, .int (iI v5))] [] σ := by
  intro p l e s m args below meth c D cA ad X0 hr hlk
  have X : Cx p s m args c (adA ad) D cA ad RX8 cX8_like 6 := X0
  refine g_iload X 4 dX8_like_95 rfl ?_
  refine g_aload_n X 0 dX8_like_97 rfl ?_
  refine g_iload_n X 1 dX8_like_98 rfl ?_
  refine g_cVI X (K := K_X8_high) [.int (iI v1)] [.int (iI v5)] dX8_like_99 lv_X8_137 rm_X8_like_X8_high ⟨by decide, by decide⟩ adA_id rfl rfl rfl (Nat.le_of_ble_eq_true rfl) rfl h (fun x2 s1 q3 h => ?_)
  refine g_icmp_ge X (tgt := 140) dX8_like_102 (by decide) h32v5 q3 (fun c4 => ?_) (fun c4 => ?_)
  · have h := h.1 c4
    refine g_iload X 3 dX8_like_140 rfl ?_
    refine g_if_eq X (tgt := 149) dX8_like_142 (by decide) h32v4 (fun c5 => ?_) (fun c5 => ?_)
    · have h := h.1 c5
      refine g_iconst X dX8_like_149 ?_
      exact g_iret X hr hlk dX8_like_150 rfl ⟨_, rfl, (by omega), h⟩
    · have h := h.2 c5
      refine g_iconst X dX8_like_145 ?_
      refine g_goto X (tgt := 150) dX8_like_146 (by decide) ?_
      exact g_iret X hr hlk dX8_like_150 rfl ⟨_, rfl, (by omega), h⟩
  · have h := h.2 c4
    refine g_iload X 3 dX8_like_105 rfl ?_
    refine g_if_eq X (tgt := 140) dX8_like_107 (by decide) h32v4 (fun c6 => ?_) (fun c6 => ?_)
    · have h := h.1 c6
      refine g_iload X 3 dX8_like_140 rfl ?_
      refine g_if_eq X (tgt := 149) dX8_like_142 (by decide) h32v4 (fun c7 => ?_) (fun c7 => ?_)
      · have h := h.1 c7
        refine g_iconst X dX8_like_149 ?_
        exact g_iret X hr hlk dX8_like_150 rfl ⟨_, rfl, (by omega), h⟩
      · have h := h.2 c7
        refine g_iconst X dX8_like_145 ?_
        refine g_goto X (tgt := 150) dX8_like_146 (by decide) ?_
        exact g_iret X hr hlk dX8_like_150 rfl ⟨_, rfl, (by omega), h⟩
    · have h := h.2 c6
      refine g_aload_n X 0 dX8_like_110 rfl ?_
      refine g_iload_n X 1 dX8_like_111 rfl ?_
      refine g_iload X 4 dX8_like_112 rfl ?_
      refine g_cVI X (K := K_X8_digitAt) [.int (iI v1), .int (iI v5)] [] dX8_like_114 lv_X8_140 rm_X8_like_X8_digitAt ⟨by decide, by decide⟩ adA_id rfl rfl rfl (Nat.le_of_ble_eq_true rfl) rfl h (fun x9 s8 q10 h => ?_)
      refine g_aload_n X 0 dX8_like_117 rfl ?_
      refine g_iload_n X 2 dX8_like_118 rfl ?_
      refine g_iload X 4 dX8_like_119 rfl ?_
      refine g_cVI X (K := K_X8_digitAt) [.int (iI v2), .int (iI v5)] [.int (iI x9)] dX8_like_121 lv_X8_140 rm_X8_like_X8_digitAt ⟨by decide, by decide⟩ adA_id rfl rfl rfl (Nat.le_of_ble_eq_true rfl) rfl h (fun x12 s11 q13 h => ?_)
      refine g_icmp_ne X (tgt := 131) dX8_like_124 (by decide) q10 q13 (fun c14 => ?_) (fun c14 => ?_)
      · have h := h.1 c14
        refine g_iconst X dX8_like_131 ?_
        refine g_istore X (lv' := [(4, .int (iI 0)), (0, .ref 72), (1, .int (iI v1)), (2, .int (iI v2)), (5, .int (iI v5))]) dX8_like_132 (by decide) rfl ?_
        refine g_iinc X (x := v5) (lv' := [(5, .int (iI (v5 + 1))), (4, .int (iI 0)), (0, .ref 72), (1, .int (iI v1)), (2, .int (iI v2))]) 4 dX8_like_134 rfl (by decide) rfl ?_
        refine g_goto X (tgt := 95) dX8_like_137 (by decide) ?_
        exact g_sub (lv' := [(0, .ref 72), (1, .int (iI v1)), (2, .int (iI v2)), (4, .int (iI 0)), (5, .int (iI (v5 + 1)))]) [2, 3, 4, 1, 0] rfl (h p l e s m args below meth c D cA ad X0 hr hlk)
      · have h := h.2 c14
        refine g_iconst X dX8_like_127 ?_
        refine g_goto X (tgt := 132) dX8_like_128 (by decide) ?_
        refine g_istore X (lv' := [(4, .int (iI 1)), (0, .ref 72), (1, .int (iI v1)), (2, .int (iI v2)), (5, .int (iI v5))]) dX8_like_132 (by decide) rfl ?_
        refine g_iinc X (x := v5) (lv' := [(5, .int (iI (v5 + 1))), (4, .int (iI 1)), (0, .ref 72), (1, .int (iI v1)), (2, .int (iI v2))]) 4 dX8_like_134 rfl (by decide) rfl ?_
        refine g_goto X (tgt := 95) dX8_like_137 (by decide) ?_
        exact g_sub (lv' := [(0, .ref 72), (1, .int (iI v1)), (2, .int (iI v2)), (4, .int (iI 1)), (5, .int (iI (v5 + 1)))]) [2, 3, 4, 1, 0] rfl (h p l e s m args below meth c D cA ad X0 hr hlk)
theorem bX8_of_0 {v1 : Int} {v2 : Int} {σ : ASt} {Q : Int → ASt → Prop} (h32v2 : i32 v2) (h : EvZ K_X8_isBase [.int (iI v1)] σ (fun s1 => EvZ K_X8_in [.long (lI v2), .long (lI 0), .long (lI 2)] s1 (fun s2 => ((v2 ≠ 0 → ((v2 ≠ 1 → ((0 : Int) ≤ v1 ∧ v1 < 3) ∧ i32 ((gI s2 75 v1)) ∧ Q (gI s2 75 v1) s2) ∧ (v2 = 1 → ((0 : Int) ≤ v1 ∧ v1 < 3) ∧ i32 ((gI s2 74 v1)) ∧ Q (gI s2 74 v1) s2))) ∧ (v2 = 0 → EvI K_X8_kind [.ref 72, .int (iI v1)] s2 (fun x10 s9 => Q x10 s9)))) (fun s2 => Q (-2) s2)) (fun s1 => Q (-2) s1)) : Wx K_X8_of (QI Q) 0 [(0, .ref 72), (1, .int (iI v1)), (2, .int (iI v2))] [] σ := by
  intro p l e s m args below meth c D cA ad X0 hr hlk
  have X : Cx p s m args c (adA ad) D cA ad RX8 cX8_of 3 := X0
  refine g_iload_n X 1 dX8_of_0 rfl ?_
  refine g_cSZ X (K := K_X8_isBase) [.int (iI v1)] [] dX8_of_1 ls_X8_114 rm_X8_of_X8_isBase ⟨by decide, by decide⟩ adA_id rfl (Nat.le_of_ble_eq_true rfl) rfl h (fun s1 h => ?_) (fun s1 h => ?_)
  · skip
    refine g_if_eq X (tgt := 19) dX8_of_4 (by decide) (by omega) (fun hc => absurd hc (by decide)) (fun _ => ?_)
    refine g_iload_n X 2 dX8_of_7 rfl ?_
    refine g_i2l X dX8_of_8 h32v2 ?_
    refine g_lconst X (z := 0) dX8_of_9 (by decide +kernel) ?_
    refine g_ldc2 X (z := 2) dX8_of_10 lc_X8_102 (by decide +kernel) ?_
    refine g_cSZ X (K := K_X8_in) [.long (lI v2), .long (lI 0), .long (lI 2)] [] dX8_of_13 ls_X8_104 rm_X8_of_X8_in ⟨by decide, by decide⟩ adA_id rfl (Nat.le_of_ble_eq_true rfl) rfl h (fun s2 h => ?_) (fun s2 h => ?_)
    · skip
      refine g_if_ne X (tgt := 22) dX8_of_16 (by decide) (by omega) (fun _ => ?_) (fun hc => absurd hc (by decide))
      refine g_iload_n X 2 dX8_of_22 rfl ?_
      refine g_if_ne X (tgt := 34) dX8_of_23 (by decide) h32v2 (fun c3 => ?_) (fun c3 => ?_)
      · have h := h.1 c3
        refine g_iload_n X 2 dX8_of_34 rfl ?_
        refine g_iconst X dX8_of_35 ?_
        refine g_icmp_ne X (tgt := 48) dX8_of_36 (by decide) h32v2 (by omega) (fun c4 => ?_) (fun c4 => ?_)
        · have h := h.1 c4
          refine g_aload_n X 0 dX8_of_48 rfl ?_
          refine g_getF X (f := 75) dX8_of_49 lf_X8_18 rfl rfl rfl ?_
          refine g_iload_n X 1 dX8_of_52 rfl ?_
          obtain ⟨q5, h⟩ := h
          refine g_iald X dX8_of_53 rfl q5.1 q5.2 ?_
          obtain ⟨q6, h⟩ := h
          exact g_iret X hr hlk dX8_of_54 rfl ⟨_, rfl, q6, h⟩
        · have h := h.2 c4
          refine g_aload_n X 0 dX8_of_39 rfl ?_
          refine g_getF X (f := 74) dX8_of_40 lf_X8_15 rfl rfl rfl ?_
          refine g_iload_n X 1 dX8_of_43 rfl ?_
          obtain ⟨q7, h⟩ := h
          refine g_iald X dX8_of_44 rfl q7.1 q7.2 ?_
          refine g_goto X (tgt := 54) dX8_of_45 (by decide) ?_
          obtain ⟨q8, h⟩ := h
          exact g_iret X hr hlk dX8_of_54 rfl ⟨_, rfl, q8, h⟩
      · have h := h.2 c3
        refine g_aload_n X 0 dX8_of_26 rfl ?_
        refine g_iload_n X 1 dX8_of_27 rfl ?_
        refine g_cVI X (K := K_X8_kind) [.int (iI v1)] [] dX8_of_28 lv_X8_123 rm_X8_of_X8_kind ⟨by decide, by decide⟩ adA_id rfl rfl rfl (Nat.le_of_ble_eq_true rfl) rfl h (fun x10 s9 q11 h => ?_)
        refine g_goto X (tgt := 54) dX8_of_31 (by decide) ?_
        exact g_iret X hr hlk dX8_of_54 rfl ⟨_, rfl, q11, h⟩
    · skip
      refine g_if_ne X (tgt := 22) dX8_of_16 (by decide) (by omega) (fun hc => absurd hc (by decide)) (fun _ => ?_)
      refine g_bipush X dX8_of_19 (by decide +kernel) ?_
      exact g_iret X hr hlk dX8_of_21 rfl ⟨_, rfl, (by omega), h⟩
  · skip
    refine g_if_eq X (tgt := 19) dX8_of_4 (by decide) (by omega) (fun _ => ?_) (fun hc => absurd hc (by decide))
    refine g_bipush X dX8_of_19 (by decide +kernel) ?_
    exact g_iret X hr hlk dX8_of_21 rfl ⟨_, rfl, (by omega), h⟩
theorem eX8_of {v1 : Int} {v2 : Int} {σ : ASt} {Q : Int → ASt → Prop} (h32v2 : i32 v2) (h : EvZ K_X8_isBase [.int (iI v1)] σ (fun s1 => EvZ K_X8_in [.long (lI v2), .long (lI 0), .long (lI 2)] s1 (fun s2 => ((v2 ≠ 0 → ((v2 ≠ 1 → ((0 : Int) ≤ v1 ∧ v1 < 3) ∧ i32 ((gI s2 75 v1)) ∧ Q (gI s2 75 v1) s2) ∧ (v2 = 1 → ((0 : Int) ≤ v1 ∧ v1 < 3) ∧ i32 ((gI s2 74 v1)) ∧ Q (gI s2 74 v1) s2))) ∧ (v2 = 0 → EvI K_X8_kind [.ref 72, .int (iI v1)] s2 (fun x10 s9 => Q x10 s9)))) (fun s2 => Q (-2) s2)) (fun s1 => Q (-2) s1)) : EvI K_X8_of [.ref 72, .int (iI v1), .int (iI v2)] σ Q := Ev.of rfl (Nat.le_of_ble_eq_true rfl) rfl (bX8_of_0 h32v2 h)
theorem bX8_on_0 {v1 : Int} {v2 : Int} {σ : ASt} {Q : Int → ASt → Prop} (h32v2 : i32 v2) (h : EvZ K_X8_isReel [.int (iI v1)] σ (fun s1 => EvZ K_X8_in [.long (lI v2), .long (lI (-100000)), .long (lI 100000)] s1 (fun s2 => EvZ K_X8_isEmpty [.ref 72, .int (iI v1)] s2 (fun s3 => Q (-11) s3) (fun s3 => EvZ K_X8_isLegal [.ref 72, .int (iI v1)] s3 (fun s4 => EvL K_X8_valueOf [.ref 72, .int (iI v1)] s4 (fun x6 s5 => ((0 : Int) ≤ v1 ∧ v1 < 6) ∧ ((0 : Int) ≤ (gI s5 78 v1) ∧ (gI s5 78 v1) < 3) ∧ EvZ K_X8_in [.long (lI (x6 + v2)), .long (lI 0), .long (lI (gL s5 77 (gI s5 78 v1)))] s5 (fun s10 => EvV K_X8_makes [.ref 72, .int (iI (gI s10 78 v1)), .long (lI (x6 + v2))] s10 (fun s11 => EvV K_X8_does [.ref 72, .int (iI v1)] s11 (fun s12 => EvI K_X8_takes [.ref 72, .int (iI v1)] s12 (fun x14 s13 => Q x14 s13)))) (fun s10 => Q (-4) s10))) (fun s4 => Q (-3) s4))) (fun s2 => Q (-2) s2)) (fun s1 => Q (-2) s1)) : Wx K_X8_on (QI Q) 0 [(0, .ref 72), (1, .int (iI v1)), (2, .int (iI v2))] [] σ := by
  intro p l e s m args below meth c D cA ad X0 hr hlk
  have X : Cx p s m args c (adA ad) D cA ad RX8 cX8_on 5 := X0
  refine g_iload_n X 1 dX8_on_0 rfl ?_
  refine g_cSZ X (K := K_X8_isReel) [.int (iI v1)] [] dX8_on_1 ls_X8_149 rm_X8_on_X8_isReel ⟨by decide, by decide⟩ adA_id rfl (Nat.le_of_ble_eq_true rfl) rfl h (fun s1 h => ?_) (fun s1 h => ?_)
  · skip
    refine g_if_eq X (tgt := 21) dX8_on_4 (by decide) (by omega) (fun hc => absurd hc (by decide)) (fun _ => ?_)
    refine g_iload_n X 2 dX8_on_7 rfl ?_
    refine g_i2l X dX8_on_8 h32v2 ?_
    refine g_ldc2 X (z := (-100000)) dX8_on_9 lc_X8_203 (by decide +kernel) ?_
    refine g_ldc2 X (z := 100000) dX8_on_12 lc_X8_205 (by decide +kernel) ?_
    refine g_cSZ X (K := K_X8_in) [.long (lI v2), .long (lI (-100000)), .long (lI 100000)] [] dX8_on_15 ls_X8_104 rm_X8_on_X8_in ⟨by decide, by decide⟩ adA_id rfl (Nat.le_of_ble_eq_true rfl) rfl h (fun s2 h => ?_) (fun s2 h => ?_)
    · skip
      refine g_if_ne X (tgt := 24) dX8_on_18 (by decide) (by omega) (fun _ => ?_) (fun hc => absurd hc (by decide))
      refine g_aload_n X 0 dX8_on_24 rfl ?_
      refine g_iload_n X 1 dX8_on_25 rfl ?_
      refine g_cVZ X (K := K_X8_isEmpty) [.int (iI v1)] [] dX8_on_26 lv_X8_159 rm_X8_on_X8_isEmpty ⟨by decide, by decide⟩ adA_id rfl rfl rfl (Nat.le_of_ble_eq_true rfl) rfl h (fun s3 h => ?_) (fun s3 h => ?_)
      · skip
        refine g_if_eq X (tgt := 35) dX8_on_29 (by decide) (by omega) (fun hc => absurd hc (by decide)) (fun _ => ?_)
        refine g_bipush X dX8_on_32 (by decide +kernel) ?_
        exact g_iret X hr hlk dX8_on_34 rfl ⟨_, rfl, (by omega), h⟩
      · skip
        refine g_if_eq X (tgt := 35) dX8_on_29 (by decide) (by omega) (fun _ => ?_) (fun hc => absurd hc (by decide))
        refine g_aload_n X 0 dX8_on_35 rfl ?_
        refine g_iload_n X 1 dX8_on_36 rfl ?_
        refine g_cVZ X (K := K_X8_isLegal) [.int (iI v1)] [] dX8_on_37 lv_X8_165 rm_X8_on_X8_isLegal ⟨by decide, by decide⟩ adA_id rfl rfl rfl (Nat.le_of_ble_eq_true rfl) rfl h (fun s4 h => ?_) (fun s4 h => ?_)
        · skip
          refine g_if_ne X (tgt := 46) dX8_on_40 (by decide) (by omega) (fun _ => ?_) (fun hc => absurd hc (by decide))
          refine g_aload_n X 0 dX8_on_46 rfl ?_
          refine g_iload_n X 1 dX8_on_47 rfl ?_
          refine g_cVL X (K := K_X8_valueOf) [.int (iI v1)] [] dX8_on_48 lv_X8_174 rm_X8_on_X8_valueOf ⟨by decide, by decide⟩ adA_id rfl rfl rfl (Nat.le_of_ble_eq_true rfl) rfl h (fun x6 s5 q7 h => ?_)
          refine g_iload_n X 2 dX8_on_51 rfl ?_
          refine g_i2l X dX8_on_52 h32v2 ?_
          refine g_ladd X dX8_on_53 ?_
          refine g_lstore_n X (lv' := [(3, .long (lI (x6 + v2))), (0, .ref 72), (1, .int (iI v1)), (2, .int (iI v2))]) dX8_on_54 (by decide) rfl ?_
          refine g_lload_n X 0 dX8_on_55 rfl ?_
          refine g_lconst X (z := 0) dX8_on_56 (by decide +kernel) ?_
          refine g_aload_n X 1 dX8_on_57 rfl ?_
          refine g_getF X (f := 77) dX8_on_58 lf_X8_25 rfl rfl rfl ?_
          refine g_aload_n X 1 dX8_on_61 rfl ?_
          refine g_getF X (f := 78) dX8_on_62 lf_X8_28 rfl rfl rfl ?_
          refine g_iload_n X 2 dX8_on_65 rfl ?_
          obtain ⟨q8, h⟩ := h
          refine g_iald X dX8_on_66 rfl q8.1 q8.2 ?_
          obtain ⟨q9, h⟩ := h
          refine g_lald X dX8_on_67 rfl q9.1 q9.2 ?_
          refine g_cSZ X (K := K_X8_in) [.long (lI (x6 + v2)), .long (lI 0), .long (lI (gL s5 77 (gI s5 78 v1)))] [] dX8_on_68 ls_X8_104 rm_X8_on_X8_in ⟨by decide, by decide⟩ adA_id rfl (Nat.le_of_ble_eq_true rfl) rfl h (fun s10 h => ?_) (fun s10 h => ?_)
          · skip
            refine g_if_ne X (tgt := 77) dX8_on_71 (by decide) (by omega) (fun _ => ?_) (fun hc => absurd hc (by decide))
            refine g_aload_n X 1 dX8_on_77 rfl ?_
            refine g_aload_n X 1 dX8_on_78 rfl ?_
            refine g_getF X (f := 78) dX8_on_79 lf_X8_28 rfl rfl rfl ?_
            refine g_iload_n X 2 dX8_on_82 rfl ?_
            refine g_iald X dX8_on_83 rfl q8.1 q8.2 ?_
            refine g_lload_n X 0 dX8_on_84 rfl ?_
            refine g_cVV X (K := K_X8_makes) [.int (iI (gI s10 78 v1)), .long (lI (x6 + v2))] [] dX8_on_85 lv_X8_152 rm_X8_on_X8_makes ⟨by decide, by decide⟩ adA_id rfl rfl rfl (Nat.le_of_ble_eq_true rfl) rfl h (fun s11 h => ?_)
            refine g_aload_n X 1 dX8_on_88 rfl ?_
            refine g_iload_n X 2 dX8_on_89 rfl ?_
            refine g_cVV X (K := K_X8_does) [.int (iI v1)] [] dX8_on_90 lv_X8_188 rm_X8_on_X8_does ⟨by decide, by decide⟩ adA_id rfl rfl rfl (Nat.le_of_ble_eq_true rfl) rfl h (fun s12 h => ?_)
            refine g_aload_n X 1 dX8_on_93 rfl ?_
            refine g_iload_n X 2 dX8_on_94 rfl ?_
            refine g_cVI X (K := K_X8_takes) [.int (iI v1)] [] dX8_on_95 lv_X8_143 rm_X8_on_X8_takes ⟨by decide, by decide⟩ adA_id rfl rfl rfl (Nat.le_of_ble_eq_true rfl) rfl h (fun x14 s13 q15 h => ?_)
            exact g_iret X hr hlk dX8_on_98 rfl ⟨_, rfl, q15, h⟩
          · skip
            refine g_if_ne X (tgt := 77) dX8_on_71 (by decide) (by omega) (fun hc => absurd hc (by decide)) (fun _ => ?_)
            refine g_bipush X dX8_on_74 (by decide +kernel) ?_
            exact g_iret X hr hlk dX8_on_76 rfl ⟨_, rfl, (by omega), h⟩
        · skip
          refine g_if_ne X (tgt := 46) dX8_on_40 (by decide) (by omega) (fun hc => absurd hc (by decide)) (fun _ => ?_)
          refine g_bipush X dX8_on_43 (by decide +kernel) ?_
          exact g_iret X hr hlk dX8_on_45 rfl ⟨_, rfl, (by omega), h⟩
    · skip
      refine g_if_ne X (tgt := 24) dX8_on_18 (by decide) (by omega) (fun hc => absurd hc (by decide)) (fun _ => ?_)
      refine g_bipush X dX8_on_21 (by decide +kernel) ?_
      exact g_iret X hr hlk dX8_on_23 rfl ⟨_, rfl, (by omega), h⟩
  · skip
    refine g_if_eq X (tgt := 21) dX8_on_4 (by decide) (by omega) (fun _ => ?_) (fun hc => absurd hc (by decide))
    refine g_bipush X dX8_on_21 (by decide +kernel) ?_
    exact g_iret X hr hlk dX8_on_23 rfl ⟨_, rfl, (by omega), h⟩
theorem eX8_on {v1 : Int} {v2 : Int} {σ : ASt} {Q : Int → ASt → Prop} (h32v2 : i32 v2) (h : EvZ K_X8_isReel [.int (iI v1)] σ (fun s1 => EvZ K_X8_in [.long (lI v2), .long (lI (-100000)), .long (lI 100000)] s1 (fun s2 => EvZ K_X8_isEmpty [.ref 72, .int (iI v1)] s2 (fun s3 => Q (-11) s3) (fun s3 => EvZ K_X8_isLegal [.ref 72, .int (iI v1)] s3 (fun s4 => EvL K_X8_valueOf [.ref 72, .int (iI v1)] s4 (fun x6 s5 => ((0 : Int) ≤ v1 ∧ v1 < 6) ∧ ((0 : Int) ≤ (gI s5 78 v1) ∧ (gI s5 78 v1) < 3) ∧ EvZ K_X8_in [.long (lI (x6 + v2)), .long (lI 0), .long (lI (gL s5 77 (gI s5 78 v1)))] s5 (fun s10 => EvV K_X8_makes [.ref 72, .int (iI (gI s10 78 v1)), .long (lI (x6 + v2))] s10 (fun s11 => EvV K_X8_does [.ref 72, .int (iI v1)] s11 (fun s12 => EvI K_X8_takes [.ref 72, .int (iI v1)] s12 (fun x14 s13 => Q x14 s13)))) (fun s10 => Q (-4) s10))) (fun s4 => Q (-3) s4))) (fun s2 => Q (-2) s2)) (fun s1 => Q (-2) s1)) : EvI K_X8_on [.ref 72, .int (iI v1), .int (iI v2)] σ Q := Ev.of rfl (Nat.le_of_ble_eq_true rfl) rfl (bX8_on_0 h32v2 h)
theorem bX8_prints_0 {v1 : Int} {σ : ASt} {Q : Int → ASt → Prop}  (h : EvI K_X8_highest [.ref 72, .int (iI v1)] σ (fun x2 s1 => ((0 ≤ x2 → EvI K_X8_highest [.ref 72, .int (iI v1)] s1 (fun x6 s5 => Wx K_X8_prints (QI Q) 20 [(0, .ref 72), (1, .int (iI v1)), (2, .int (iI 0)), (3, .int (iI x6))] [] s5)) ∧ (x2 < 0 → Wx K_X8_prints (QI Q) 20 [(0, .ref 72), (1, .int (iI v1)), (2, .int (iI 0)), (3, .int (iI 0))] [] s1)))) : Wx K_X8_prints (QI Q) 0 [(0, .ref 72), (1, .int (iI v1))] [] σ := by
  intro p l e s m args below meth c D cA ad X0 hr hlk
  have X : Cx p s m args c (adA ad) D cA ad RX8 cX8_prints 4 := X0
  refine g_iconst X dX8_prints_0 ?_
  refine g_istore_n X (lv' := [(2, .int (iI 0)), (0, .ref 72), (1, .int (iI v1))]) dX8_prints_1 (by decide) rfl ?_
  refine g_aload_n X 1 dX8_prints_2 rfl ?_
  refine g_iload_n X 2 dX8_prints_3 rfl ?_
  refine g_cVI X (K := K_X8_highest) [.int (iI v1)] [] dX8_prints_4 lv_X8_168 rm_X8_prints_X8_highest ⟨by decide, by decide⟩ adA_id rfl rfl rfl (Nat.le_of_ble_eq_true rfl) rfl h (fun x2 s1 q3 h => ?_)
  refine g_if_ge X (tgt := 14) dX8_prints_7 (by decide) q3 (fun c4 => ?_) (fun c4 => ?_)
  · have h := h.1 c4
    refine g_aload_n X 1 dX8_prints_14 rfl ?_
    refine g_iload_n X 2 dX8_prints_15 rfl ?_
    refine g_cVI X (K := K_X8_highest) [.int (iI v1)] [] dX8_prints_16 lv_X8_168 rm_X8_prints_X8_highest ⟨by decide, by decide⟩ adA_id rfl rfl rfl (Nat.le_of_ble_eq_true rfl) rfl h (fun x6 s5 q7 h => ?_)
    refine g_istore_n X (lv' := [(3, .int (iI x6)), (2, .int (iI 0)), (0, .ref 72), (1, .int (iI v1))]) dX8_prints_19 (by decide) rfl ?_
    exact g_sub (lv' := [(0, .ref 72), (1, .int (iI v1)), (2, .int (iI 0)), (3, .int (iI x6))]) [2, 3, 1, 0] rfl (h p l e s m args below meth c D cA ad X0 hr hlk)
  · have h := h.2 c4
    refine g_iconst X dX8_prints_10 ?_
    refine g_goto X (tgt := 19) dX8_prints_11 (by decide) ?_
    refine g_istore_n X (lv' := [(3, .int (iI 0)), (2, .int (iI 0)), (0, .ref 72), (1, .int (iI v1))]) dX8_prints_19 (by decide) rfl ?_
    exact g_sub (lv' := [(0, .ref 72), (1, .int (iI v1)), (2, .int (iI 0)), (3, .int (iI 0))]) [2, 3, 1, 0] rfl (h p l e s m args below meth c D cA ad X0 hr hlk)
theorem eX8_prints {v1 : Int} {σ : ASt} {Q : Int → ASt → Prop}  (h : EvI K_X8_highest [.ref 72, .int (iI v1)] σ (fun x2 s1 => ((0 ≤ x2 → EvI K_X8_highest [.ref 72, .int (iI v1)] s1 (fun x6 s5 => Wx K_X8_prints (QI Q) 20 [(0, .ref 72), (1, .int (iI v1)), (2, .int (iI 0)), (3, .int (iI x6))] [] s5)) ∧ (x2 < 0 → Wx K_X8_prints (QI Q) 20 [(0, .ref 72), (1, .int (iI v1)), (2, .int (iI 0)), (3, .int (iI 0))] [] s1)))) : EvI K_X8_prints [.ref 72, .int (iI v1)] σ Q := Ev.of rfl (Nat.le_of_ble_eq_true rfl) rfl (bX8_prints_0  h)
theorem bX8_prints_20 {v1 : Int} {v2 : Int} {v3 : Int} {σ : ASt} {Q : Int → ASt → Prop} (h32v2 : i32 v2) (h32v3 : i32 v3) (h : ((v3 < 0 → Q v2 σ) ∧ (0 ≤ v3 → EvI K_X8_digitAt [.ref 72, .int (iI v1), .int (iI v3)] σ (fun x3 s2 => ((x3 ≤ 9 → EvI K_X8_digitAt [.ref 72, .int (iI v1), .int (iI v3)] s2 (fun x7 s6 => ((0 : Int) ≤ v2 ∧ v2 < 160) ∧ ((v3 ≤ 0 → Wx K_X8_prints (QI Q) 20 [(0, .ref 72), (1, .int (iI v1)), (2, .int (iI (v2 + 1))), (3, .int (iI (v3 + (-1))))] [] (sI s6 91 v2 (48 + (Int.tmod x7 10)))) ∧ (0 < v3 → ((0 : Int) ≤ (v2 + 1) ∧ (v2 + 1) < 160) ∧ Wx K_X8_prints (QI Q) 20 [(0, .ref 72), (1, .int (iI v1)), (2, .int (iI ((v2 + 1) + 1))), (3, .int (iI (v3 + (-1))))] [] (sI (sI s6 91 v2 (48 + (Int.tmod x7 10))) 91 (v2 + 1) 46))))) ∧ (9 < x3 → EvI K_X8_digitAt [.ref 72, .int (iI v1), .int (iI v3)] s2 (fun x13 s12 => ((0 : Int) ≤ v2 ∧ v2 < 160) ∧ EvI K_X8_digitAt [.ref 72, .int (iI v1), .int (iI v3)] (sI s12 91 v2 (48 + (Int.tdiv x13 10))) (fun x17 s16 => ((0 : Int) ≤ (v2 + 1) ∧ (v2 + 1) < 160) ∧ ((v3 ≤ 0 → Wx K_X8_prints (QI Q) 20 [(0, .ref 72), (1, .int (iI v1)), (2, .int (iI ((v2 + 1) + 1))), (3, .int (iI (v3 + (-1))))] [] (sI s16 91 (v2 + 1) (48 + (Int.tmod x17 10)))) ∧ (0 < v3 → ((0 : Int) ≤ ((v2 + 1) + 1) ∧ ((v2 + 1) + 1) < 160) ∧ Wx K_X8_prints (QI Q) 20 [(0, .ref 72), (1, .int (iI v1)), (2, .int (iI (((v2 + 1) + 1) + 1))), (3, .int (iI (v3 + (-1))))] [] (sI (sI s16 91 (v2 + 1) (48 + (Int.tmod x17 10))) 91 ((v2 + 1) + 1) 46))))))))))) : Wx K_X8_prints (QI Q) 20 [(0, .ref 72), (1, .int (iI v1)), (2, .int (iI v2)), (3, .int (iI v3))] [] σ := by
  intro p l e s m args below meth c D cA ad X0 hr hlk
  have X : Cx p s m args c (adA ad) D cA ad RX8 cX8_prints 4 := X0
  refine g_iload_n X 3 dX8_prints_20 rfl ?_
  refine g_if_lt X (tgt := 98) dX8_prints_21 (by decide) h32v3 (fun c1 => ?_) (fun c1 => ?_)
  · have h := h.1 c1
    refine g_iload_n X 2 dX8_prints_98 rfl ?_
    exact g_iret X hr hlk dX8_prints_99 rfl ⟨_, rfl, h32v2, h⟩
  · have h := h.2 c1
    refine g_aload_n X 0 dX8_prints_24 rfl ?_
    refine g_iload_n X 1 dX8_prints_25 rfl ?_
    refine g_iload_n X 3 dX8_prints_26 rfl ?_
    refine g_cVI X (K := K_X8_digitAt) [.int (iI v1), .int (iI v3)] [] dX8_prints_27 lv_X8_140 rm_X8_prints_X8_digitAt ⟨by decide, by decide⟩ adA_id rfl rfl rfl (Nat.le_of_ble_eq_true rfl) rfl h (fun x3 s2 q4 h => ?_)
    refine g_bipush X dX8_prints_30 (by decide +kernel) ?_
    refine g_icmp_le X (tgt := 56) dX8_prints_32 (by decide) q4 (by omega) (fun c5 => ?_) (fun c5 => ?_)
    · have h := h.1 c5
      refine g_aload_n X 0 dX8_prints_56 rfl ?_
      refine g_getF X (f := 91) dX8_prints_57 lf_X8_67 rfl rfl rfl ?_
      refine g_iload_n X 2 dX8_prints_60 rfl ?_
      refine g_bipush X dX8_prints_61 (by decide +kernel) ?_
      refine g_aload_n X 0 dX8_prints_63 rfl ?_
      refine g_iload_n X 1 dX8_prints_64 rfl ?_
      refine g_iload_n X 3 dX8_prints_65 rfl ?_
      refine g_cVI X (K := K_X8_digitAt) [.int (iI v1), .int (iI v3)] [.int (iI 48), .int (iI v2), .ref 91] dX8_prints_66 lv_X8_140 rm_X8_prints_X8_digitAt ⟨by decide, by decide⟩ adA_id rfl rfl rfl (Nat.le_of_ble_eq_true rfl) rfl h (fun x7 s6 q8 h => ?_)
      refine g_bipush X dX8_prints_69 (by decide +kernel) ?_
      refine g_irem X dX8_prints_71 q8 (by omega) (by decide) ?_
      refine g_iadd X dX8_prints_72 ?_
      obtain ⟨q9, h⟩ := h
      refine g_iast X dX8_prints_73 rfl q9.1 q9.2 ?_
      refine g_iinc X (x := v2) (lv' := [(2, .int (iI (v2 + 1))), (0, .ref 72), (1, .int (iI v1)), (3, .int (iI v3))]) 2 dX8_prints_74 rfl (by decide) rfl ?_
      refine g_iload_n X 3 dX8_prints_77 rfl ?_
      refine g_if_le X (tgt := 92) dX8_prints_78 (by decide) h32v3 (fun c10 => ?_) (fun c10 => ?_)
      · have h := h.1 c10
        refine g_iinc X (x := v3) (lv' := [(3, .int (iI (v3 + (-1)))), (2, .int (iI (v2 + 1))), (0, .ref 72), (1, .int (iI v1))]) 3 dX8_prints_92 rfl (by decide) rfl ?_
        refine g_goto X (tgt := 20) dX8_prints_95 (by decide) ?_
        exact g_sub (lv' := [(0, .ref 72), (1, .int (iI v1)), (2, .int (iI (v2 + 1))), (3, .int (iI (v3 + (-1))))]) [2, 3, 1, 0] rfl (h p l e s m args below meth c D cA ad X0 hr hlk)
      · have h := h.2 c10
        refine g_aload_n X 1 dX8_prints_81 rfl ?_
        refine g_getF X (f := 91) dX8_prints_82 lf_X8_67 rfl rfl rfl ?_
        refine g_iload_n X 0 dX8_prints_85 rfl ?_
        refine g_bipush X dX8_prints_86 (by decide +kernel) ?_
        obtain ⟨q11, h⟩ := h
        refine g_iast X dX8_prints_88 rfl q11.1 q11.2 ?_
        refine g_iinc X (x := (v2 + 1)) (lv' := [(2, .int (iI ((v2 + 1) + 1))), (0, .ref 72), (1, .int (iI v1)), (3, .int (iI v3))]) 0 dX8_prints_89 rfl (by decide) rfl ?_
        refine g_iinc X (x := v3) (lv' := [(3, .int (iI (v3 + (-1)))), (2, .int (iI ((v2 + 1) + 1))), (0, .ref 72), (1, .int (iI v1))]) 3 dX8_prints_92 rfl (by decide) rfl ?_
        refine g_goto X (tgt := 20) dX8_prints_95 (by decide) ?_
        exact g_sub (lv' := [(0, .ref 72), (1, .int (iI v1)), (2, .int (iI ((v2 + 1) + 1))), (3, .int (iI (v3 + (-1))))]) [2, 3, 1, 0] rfl (h p l e s m args below meth c D cA ad X0 hr hlk)
    · have h := h.2 c5
      refine g_aload_n X 0 dX8_prints_35 rfl ?_
      refine g_getF X (f := 91) dX8_prints_36 lf_X8_67 rfl rfl rfl ?_
      refine g_iload_n X 2 dX8_prints_39 rfl ?_
      refine g_bipush X dX8_prints_40 (by decide +kernel) ?_
      refine g_aload_n X 0 dX8_prints_42 rfl ?_
      refine g_iload_n X 1 dX8_prints_43 rfl ?_
      refine g_iload_n X 3 dX8_prints_44 rfl ?_
      refine g_cVI X (K := K_X8_digitAt) [.int (iI v1), .int (iI v3)] [.int (iI 48), .int (iI v2), .ref 91] dX8_prints_45 lv_X8_140 rm_X8_prints_X8_digitAt ⟨by decide, by decide⟩ adA_id rfl rfl rfl (Nat.le_of_ble_eq_true rfl) rfl h (fun x13 s12 q14 h => ?_)
      refine g_bipush X dX8_prints_48 (by decide +kernel) ?_
      refine g_idiv X dX8_prints_50 q14 (by omega) (by decide) ?_
      refine g_iadd X dX8_prints_51 ?_
      obtain ⟨q15, h⟩ := h
      refine g_iast X dX8_prints_52 rfl q15.1 q15.2 ?_
      refine g_iinc X (x := v2) (lv' := [(2, .int (iI (v2 + 1))), (0, .ref 72), (1, .int (iI v1)), (3, .int (iI v3))]) 2 dX8_prints_53 rfl (by decide) rfl ?_
      refine g_aload_n X 1 dX8_prints_56 rfl ?_
      refine g_getF X (f := 91) dX8_prints_57 lf_X8_67 rfl rfl rfl ?_
      refine g_iload_n X 0 dX8_prints_60 rfl ?_
      refine g_bipush X dX8_prints_61 (by decide +kernel) ?_
      refine g_aload_n X 1 dX8_prints_63 rfl ?_
      refine g_iload_n X 2 dX8_prints_64 rfl ?_
      refine g_iload_n X 3 dX8_prints_65 rfl ?_
      refine g_cVI X (K := K_X8_digitAt) [.int (iI v1), .int (iI v3)] [.int (iI 48), .int (iI (v2 + 1)), .ref 91] dX8_prints_66 lv_X8_140 rm_X8_prints_X8_digitAt ⟨by decide, by decide⟩ adA_id rfl rfl rfl (Nat.le_of_ble_eq_true rfl) rfl h (fun x17 s16 q18 h => ?_)
      refine g_bipush X dX8_prints_69 (by decide +kernel) ?_
      refine g_irem X dX8_prints_71 q18 (by omega) (by decide) ?_
      refine g_iadd X dX8_prints_72 ?_
      obtain ⟨q19, h⟩ := h
      refine g_iast X dX8_prints_73 rfl q19.1 q19.2 ?_
      refine g_iinc X (x := (v2 + 1)) (lv' := [(2, .int (iI ((v2 + 1) + 1))), (0, .ref 72), (1, .int (iI v1)), (3, .int (iI v3))]) 0 dX8_prints_74 rfl (by decide) rfl ?_
      refine g_iload_n X 3 dX8_prints_77 rfl ?_
      refine g_if_le X (tgt := 92) dX8_prints_78 (by decide) h32v3 (fun c20 => ?_) (fun c20 => ?_)
      · have h := h.1 c20
        refine g_iinc X (x := v3) (lv' := [(3, .int (iI (v3 + (-1)))), (2, .int (iI ((v2 + 1) + 1))), (0, .ref 72), (1, .int (iI v1))]) 3 dX8_prints_92 rfl (by decide) rfl ?_
        refine g_goto X (tgt := 20) dX8_prints_95 (by decide) ?_
        exact g_sub (lv' := [(0, .ref 72), (1, .int (iI v1)), (2, .int (iI ((v2 + 1) + 1))), (3, .int (iI (v3 + (-1))))]) [2, 3, 1, 0] rfl (h p l e s m args below meth c D cA ad X0 hr hlk)
      · have h := h.2 c20
        refine g_aload_n X 1 dX8_prints_81 rfl ?_
        refine g_getF X (f := 91) dX8_prints_82 lf_X8_67 rfl rfl rfl ?_
        refine g_iload_n X 0 dX8_prints_85 rfl ?_
        refine g_bipush X dX8_prints_86 (by decide +kernel) ?_
        obtain ⟨q21, h⟩ := h
        refine g_iast X dX8_prints_88 rfl q21.1 q21.2 ?_
        refine g_iinc X (x := ((v2 + 1) + 1)) (lv' := [(2, .int (iI (((v2 + 1) + 1) + 1))), (0, .ref 72), (1, .int (iI v1)), (3, .int (iI v3))]) 0 dX8_prints_89 rfl (by decide) rfl ?_
        refine g_iinc X (x := v3) (lv' := [(3, .int (iI (v3 + (-1)))), (2, .int (iI (((v2 + 1) + 1) + 1))), (0, .ref 72), (1, .int (iI v1))]) 3 dX8_prints_92 rfl (by decide) rfl ?_
        refine g_goto X (tgt := 20) dX8_prints_95 (by decide) ?_
        exact g_sub (lv' := [(0, .ref 72), (1, .int (iI v1)), (2, .int (iI (((v2 + 1) + 1) + 1))), (3, .int (iI (v3 + (-1))))]) [2, 3, 1, 0] rfl (h p l e s m args below meth c D cA ad X0 hr hlk)
theorem bX8_print_0 {v1 : Int} {v2 : Int} {σ : ASt} {Q : Int → ASt → Prop} (h32v2 : i32 v2) (h : EvZ K_X8_isReel [.int (iI v1)] σ (fun s1 => (((-1) ≤ v2 → EvZ K_X8_isEmpty [.ref 72, .int (iI v1)] s1 (fun s3 => Q (-11) s3) (fun s3 => EvI K_X8_prints [.ref 72, .int (iI v1)] s3 (fun x5 s4 => ((v2 ≠ (-1) → ((x5 ≤ v2 → Q (-12) s4) ∧ (v2 < x5 → ((0 : Int) ≤ v2 ∧ v2 < 160) ∧ i32 ((gI s4 91 v2)) ∧ Q (gI s4 91 v2) s4))) ∧ (v2 = (-1) → Q x5 s4))))) ∧ (v2 < (-1) → Q (-2) s1))) (fun s1 => Q (-2) s1)) : Wx K_X8_print (QI Q) 0 [(0, .ref 72), (1, .int (iI v1)), (2, .int (iI v2))] [] σ := by
  intro p l e s m args below meth c D cA ad X0 hr hlk
  have X : Cx p s m args c (adA ad) D cA ad RX8 cX8_print 4 := X0
  refine g_iload_n X 1 dX8_print_0 rfl ?_
  refine g_cSZ X (K := K_X8_isReel) [.int (iI v1)] [] dX8_print_1 ls_X8_149 rm_X8_print_X8_isReel ⟨by decide, by decide⟩ adA_id rfl (Nat.le_of_ble_eq_true rfl) rfl h (fun s1 h => ?_) (fun s1 h => ?_)
  · skip
    refine g_if_eq X (tgt := 12) dX8_print_4 (by decide) (by omega) (fun hc => absurd hc (by decide)) (fun _ => ?_)
    refine g_iload_n X 2 dX8_print_7 rfl ?_
    refine g_iconst X dX8_print_8 ?_
    refine g_icmp_ge X (tgt := 15) dX8_print_9 (by decide) h32v2 (by omega) (fun c2 => ?_) (fun c2 => ?_)
    · have h := h.1 c2
      refine g_aload_n X 0 dX8_print_15 rfl ?_
      refine g_iload_n X 1 dX8_print_16 rfl ?_
      refine g_cVZ X (K := K_X8_isEmpty) [.int (iI v1)] [] dX8_print_17 lv_X8_159 rm_X8_print_X8_isEmpty ⟨by decide, by decide⟩ adA_id rfl rfl rfl (Nat.le_of_ble_eq_true rfl) rfl h (fun s3 h => ?_) (fun s3 h => ?_)
      · skip
        refine g_if_eq X (tgt := 26) dX8_print_20 (by decide) (by omega) (fun hc => absurd hc (by decide)) (fun _ => ?_)
        refine g_bipush X dX8_print_23 (by decide +kernel) ?_
        exact g_iret X hr hlk dX8_print_25 rfl ⟨_, rfl, (by omega), h⟩
      · skip
        refine g_if_eq X (tgt := 26) dX8_print_20 (by decide) (by omega) (fun _ => ?_) (fun hc => absurd hc (by decide))
        refine g_aload_n X 0 dX8_print_26 rfl ?_
        refine g_iload_n X 1 dX8_print_27 rfl ?_
        refine g_cVI X (K := K_X8_prints) [.int (iI v1)] [] dX8_print_28 lv_X8_229 rm_X8_print_X8_prints ⟨by decide, by decide⟩ adA_id rfl rfl rfl (Nat.le_of_ble_eq_true rfl) rfl h (fun x5 s4 q6 h => ?_)
        refine g_istore_n X (lv' := [(3, .int (iI x5)), (0, .ref 72), (1, .int (iI v1)), (2, .int (iI v2))]) dX8_print_31 (by decide) rfl ?_
        refine g_iload_n X 3 dX8_print_32 rfl ?_
        refine g_iconst X dX8_print_33 ?_
        refine g_icmp_ne X (tgt := 41) dX8_print_34 (by decide) h32v2 (by omega) (fun c7 => ?_) (fun c7 => ?_)
        · have h := h.1 c7
          refine g_iload_n X 3 dX8_print_41 rfl ?_
          refine g_iload_n X 0 dX8_print_42 rfl ?_
          refine g_icmp_ge X (tgt := 55) dX8_print_43 (by decide) h32v2 q6 (fun c8 => ?_) (fun c8 => ?_)
          · have h := h.1 c8
            refine g_bipush X dX8_print_55 (by decide +kernel) ?_
            exact g_iret X hr hlk dX8_print_57 rfl ⟨_, rfl, (by omega), h⟩
          · have h := h.2 c8
            refine g_aload_n X 1 dX8_print_46 rfl ?_
            refine g_getF X (f := 91) dX8_print_47 lf_X8_67 rfl rfl rfl ?_
            refine g_iload_n X 3 dX8_print_50 rfl ?_
            obtain ⟨q9, h⟩ := h
            refine g_iald X dX8_print_51 rfl q9.1 q9.2 ?_
            refine g_goto X (tgt := 57) dX8_print_52 (by decide) ?_
            obtain ⟨q10, h⟩ := h
            exact g_iret X hr hlk dX8_print_57 rfl ⟨_, rfl, q10, h⟩
        · have h := h.2 c7
          refine g_iload_n X 0 dX8_print_37 rfl ?_
          refine g_goto X (tgt := 57) dX8_print_38 (by decide) ?_
          exact g_iret X hr hlk dX8_print_57 rfl ⟨_, rfl, q6, h⟩
    · have h := h.2 c2
      refine g_bipush X dX8_print_12 (by decide +kernel) ?_
      exact g_iret X hr hlk dX8_print_14 rfl ⟨_, rfl, (by omega), h⟩
  · skip
    refine g_if_eq X (tgt := 12) dX8_print_4 (by decide) (by omega) (fun _ => ?_) (fun hc => absurd hc (by decide))
    refine g_bipush X dX8_print_12 (by decide +kernel) ?_
    exact g_iret X hr hlk dX8_print_14 rfl ⟨_, rfl, (by omega), h⟩
theorem eX8_print {v1 : Int} {v2 : Int} {σ : ASt} {Q : Int → ASt → Prop} (h32v2 : i32 v2) (h : EvZ K_X8_isReel [.int (iI v1)] σ (fun s1 => (((-1) ≤ v2 → EvZ K_X8_isEmpty [.ref 72, .int (iI v1)] s1 (fun s3 => Q (-11) s3) (fun s3 => EvI K_X8_prints [.ref 72, .int (iI v1)] s3 (fun x5 s4 => ((v2 ≠ (-1) → ((x5 ≤ v2 → Q (-12) s4) ∧ (v2 < x5 → ((0 : Int) ≤ v2 ∧ v2 < 160) ∧ i32 ((gI s4 91 v2)) ∧ Q (gI s4 91 v2) s4))) ∧ (v2 = (-1) → Q x5 s4))))) ∧ (v2 < (-1) → Q (-2) s1))) (fun s1 => Q (-2) s1)) : EvI K_X8_print [.ref 72, .int (iI v1), .int (iI v2)] σ Q := Ev.of rfl (Nat.le_of_ble_eq_true rfl) rfl (bX8_print_0 h32v2 h)
theorem bX8_put_0 {v1 : Int} {v2 : Int} {v3 : Int} {σ : ASt} {Q : Int → ASt → Prop} (h32v2 : i32 v2) (h : EvZ K_X8_isRow [.int (iI v1)] σ (fun s1 => ((0 : Int) ≤ v1 ∧ v1 < 3) ∧ i32 ((gI s1 93 v1)) ∧ (((gI s1 93 v1) ≠ 0 → i32 (((gI s1 94 v1) - 1)) ∧ EvZ K_X8_in [.long (lI v2), .long (lI 0), .long (lI ((gI s1 94 v1) - 1))] s1 (fun s6 => ((0 : Int) ≤ ((60 * v1) + v2) ∧ ((60 * v1) + v2) < 180) ∧ Q 1 (sL s6 95 ((60 * v1) + v2) v3)) (fun s6 => Q (-12) s6)) ∧ ((gI s1 93 v1) = 0 → Q (-11) s1))) (fun s1 => Q (-2) s1)) : Wx K_X8_put (QI Q) 0 [(0, .ref 72), (1, .int (iI v1)), (2, .int (iI v2)), (3, .long (lI v3))] [] σ := by
  intro p l e s m args below meth c D cA ad X0 hr hlk
  have X : Cx p s m args c (adA ad) D cA ad RX8 cX8_put 5 := X0
  refine g_iload_n X 1 dX8_put_0 rfl ?_
  refine g_cSZ X (K := K_X8_isRow) [.int (iI v1)] [] dX8_put_1 ls_X8_251 rm_X8_put_X8_isRow ⟨by decide, by decide⟩ adA_id rfl (Nat.le_of_ble_eq_true rfl) rfl h (fun s1 h => ?_) (fun s1 h => ?_)
  · skip
    refine g_if_ne X (tgt := 10) dX8_put_4 (by decide) (by omega) (fun _ => ?_) (fun hc => absurd hc (by decide))
    refine g_aload_n X 0 dX8_put_10 rfl ?_
    refine g_getF X (f := 93) dX8_put_11 lf_X8_73 rfl rfl rfl ?_
    refine g_iload_n X 1 dX8_put_14 rfl ?_
    obtain ⟨q2, h⟩ := h
    refine g_zald X dX8_put_15 rfl q2.1 q2.2 ?_
    obtain ⟨q3, h⟩ := h
    refine g_if_ne X (tgt := 22) dX8_put_16 (by decide) q3 (fun c4 => ?_) (fun c4 => ?_)
    · have h := h.1 c4
      refine g_iload_n X 2 dX8_put_22 rfl ?_
      refine g_i2l X dX8_put_23 h32v2 ?_
      refine g_lconst X (z := 0) dX8_put_24 (by decide +kernel) ?_
      refine g_aload_n X 0 dX8_put_25 rfl ?_
      refine g_getF X (f := 94) dX8_put_26 lf_X8_77 rfl rfl rfl ?_
      refine g_iload_n X 1 dX8_put_29 rfl ?_
      refine g_iald X dX8_put_30 rfl q2.1 q2.2 ?_
      refine g_iconst X dX8_put_31 ?_
      refine g_isub X dX8_put_32 ?_
      obtain ⟨q5, h⟩ := h
      refine g_i2l X dX8_put_33 q5 ?_
      refine g_cSZ X (K := K_X8_in) [.long (lI v2), .long (lI 0), .long (lI ((gI s1 94 v1) - 1))] [] dX8_put_34 ls_X8_104 rm_X8_put_X8_in ⟨by decide, by decide⟩ adA_id rfl (Nat.le_of_ble_eq_true rfl) rfl h (fun s6 h => ?_) (fun s6 h => ?_)
      · skip
        refine g_if_ne X (tgt := 43) dX8_put_37 (by decide) (by omega) (fun _ => ?_) (fun hc => absurd hc (by decide))
        refine g_aload_n X 0 dX8_put_43 rfl ?_
        refine g_getF X (f := 95) dX8_put_44 lf_X8_80 rfl rfl rfl ?_
        refine g_bipush X dX8_put_47 (by decide +kernel) ?_
        refine g_iload_n X 1 dX8_put_49 rfl ?_
        refine g_imul X dX8_put_50 ?_
        refine g_iload_n X 2 dX8_put_51 rfl ?_
        refine g_iadd X dX8_put_52 ?_
        refine g_lload_n X 3 dX8_put_53 rfl ?_
        obtain ⟨q7, h⟩ := h
        refine g_last X dX8_put_54 rfl q7.1 q7.2 ?_
        refine g_iconst X dX8_put_55 ?_
        exact g_iret X hr hlk dX8_put_56 rfl ⟨_, rfl, (by omega), h⟩
      · skip
        refine g_if_ne X (tgt := 43) dX8_put_37 (by decide) (by omega) (fun hc => absurd hc (by decide)) (fun _ => ?_)
        refine g_bipush X dX8_put_40 (by decide +kernel) ?_
        exact g_iret X hr hlk dX8_put_42 rfl ⟨_, rfl, (by omega), h⟩
    · have h := h.2 c4
      refine g_bipush X dX8_put_19 (by decide +kernel) ?_
      exact g_iret X hr hlk dX8_put_21 rfl ⟨_, rfl, (by omega), h⟩
  · skip
    refine g_if_ne X (tgt := 10) dX8_put_4 (by decide) (by omega) (fun hc => absurd hc (by decide)) (fun _ => ?_)
    refine g_bipush X dX8_put_7 (by decide +kernel) ?_
    exact g_iret X hr hlk dX8_put_9 rfl ⟨_, rfl, (by omega), h⟩
theorem eX8_put {v1 : Int} {v2 : Int} {v3 : Int} {σ : ASt} {Q : Int → ASt → Prop} (h32v2 : i32 v2) (h : EvZ K_X8_isRow [.int (iI v1)] σ (fun s1 => ((0 : Int) ≤ v1 ∧ v1 < 3) ∧ i32 ((gI s1 93 v1)) ∧ (((gI s1 93 v1) ≠ 0 → i32 (((gI s1 94 v1) - 1)) ∧ EvZ K_X8_in [.long (lI v2), .long (lI 0), .long (lI ((gI s1 94 v1) - 1))] s1 (fun s6 => ((0 : Int) ≤ ((60 * v1) + v2) ∧ ((60 * v1) + v2) < 180) ∧ Q 1 (sL s6 95 ((60 * v1) + v2) v3)) (fun s6 => Q (-12) s6)) ∧ ((gI s1 93 v1) = 0 → Q (-11) s1))) (fun s1 => Q (-2) s1)) : EvI K_X8_put [.ref 72, .int (iI v1), .int (iI v2), .long (lI v3)] σ Q := Ev.of rfl (Nat.le_of_ble_eq_true rfl) rfl (bX8_put_0 h32v2 h)
theorem bX8_reads_0 {v1 : Int} {σ : ASt} {Q : Int → ASt → Prop}  (h : Wx K_X8_reads (QI Q) 7 [(0, .ref 72), (1, .int (iI v1)), (2, .int (iI 0))] [] (sI σ 72 24 0)) : Wx K_X8_reads (QI Q) 0 [(0, .ref 72), (1, .int (iI v1))] [] σ := by
  intro p l e s m args below meth c D cA ad X0 hr hlk
  have X : Cx p s m args c (adA ad) D cA ad RX8 cX8_reads 4 := X0
  refine g_aload_n X 0 dX8_reads_0 rfl ?_
  refine g_iconst X dX8_reads_1 ?_
  refine g_putI X (j := 24) (z := 24) dX8_reads_2 lp_X8_237 rfl rfl rfl ?_
  refine g_iconst X dX8_reads_5 ?_
  refine g_istore_n X (lv' := [(2, .int (iI 0)), (0, .ref 72), (1, .int (iI v1))]) dX8_reads_6 (by decide) rfl ?_
  exact g_sub (lv' := [(0, .ref 72), (1, .int (iI v1)), (2, .int (iI 0))]) [1, 2, 0] rfl (h p l e s m args below meth c D cA ad X0 hr hlk)
theorem eX8_reads {v1 : Int} {σ : ASt} {Q : Int → ASt → Prop}  (h : Wx K_X8_reads (QI Q) 7 [(0, .ref 72), (1, .int (iI v1)), (2, .int (iI 0))] [] (sI σ 72 24 0)) : EvI K_X8_reads [.ref 72, .int (iI v1)] σ Q := Ev.of rfl (Nat.le_of_ble_eq_true rfl) rfl (bX8_reads_0  h)
theorem bX8_reads_7 {v1 : Int} {v2 : Int} {σ : ASt} {Q : Int → ASt → Prop} (h32v1 : i32 v1) (h32v2 : i32 v2) (h : ((v2 = v1 → Q (-1) σ) ∧ (v2 ≠ v1 → EvZ K_X8_isFigure [.ref 72] σ (fun s2 => ((0 : Int) ≤ (gI s2 72 24) ∧ (gI s2 72 24) < 80) ∧ EvZ K_X8_isFigure [.ref 72] (sI s2 72 24 ((gI s2 72 24) + 1)) (fun s4 => ((0 : Int) ≤ (gI s4 72 24) ∧ (gI s4 72 24) < 80) ∧ ((0 : Int) ≤ v2 ∧ v2 < 50) ∧ i32 ((gI (sI (sI s4 72 24 ((gI s4 72 24) + 1)) 90 v2 (((10 * ((gI s2 92 (gI s2 72 24)) - 48)) + (gI s4 92 (gI s4 72 24))) - 48)) 72 24)) ∧ i32 ((gI (sI (sI s4 72 24 ((gI s4 72 24) + 1)) 90 v2 (((10 * ((gI s2 92 (gI s2 72 24)) - 48)) + (gI s4 92 (gI s4 72 24))) - 48)) 72 23)) ∧ (((gI (sI (sI s4 72 24 ((gI s4 72 24) + 1)) 90 v2 (((10 * ((gI s2 92 (gI s2 72 24)) - 48)) + (gI s4 92 (gI s4 72 24))) - 48)) 72 24) ≠ (gI (sI (sI s4 72 24 ((gI s4 72 24) + 1)) 90 v2 (((10 * ((gI s2 92 (gI s2 72 24)) - 48)) + (gI s4 92 (gI s4 72 24))) - 48)) 72 23) → ((0 : Int) ≤ (gI (sI (sI s4 72 24 ((gI s4 72 24) + 1)) 90 v2 (((10 * ((gI s2 92 (gI s2 72 24)) - 48)) + (gI s4 92 (gI s4 72 24))) - 48)) 72 24) ∧ (gI (sI (sI s4 72 24 ((gI s4 72 24) + 1)) 90 v2 (((10 * ((gI s2 92 (gI s2 72 24)) - 48)) + (gI s4 92 (gI s4 72 24))) - 48)) 72 24) < 80) ∧ i32 ((gI (sI (sI s4 72 24 ((gI s4 72 24) + 1)) 90 v2 (((10 * ((gI s2 92 (gI s2 72 24)) - 48)) + (gI s4 92 (gI s4 72 24))) - 48)) 92 (gI (sI (sI s4 72 24 ((gI s4 72 24) + 1)) 90 v2 (((10 * ((gI s2 92 (gI s2 72 24)) - 48)) + (gI s4 92 (gI s4 72 24))) - 48)) 72 24))) ∧ (((gI (sI (sI s4 72 24 ((gI s4 72 24) + 1)) 90 v2 (((10 * ((gI s2 92 (gI s2 72 24)) - 48)) + (gI s4 92 (gI s4 72 24))) - 48)) 92 (gI (sI (sI s4 72 24 ((gI s4 72 24) + 1)) 90 v2 (((10 * ((gI s2 92 (gI s2 72 24)) - 48)) + (gI s4 92 (gI s4 72 24))) - 48)) 72 24)) = 46 → Wx K_X8_reads (QI Q) 7 [(0, .ref 72), (1, .int (iI v1)), (2, .int (iI (v2 + 1)))] [] (sI (sI (sI s4 72 24 ((gI s4 72 24) + 1)) 90 v2 (((10 * ((gI s2 92 (gI s2 72 24)) - 48)) + (gI s4 92 (gI s4 72 24))) - 48)) 72 24 ((gI (sI (sI s4 72 24 ((gI s4 72 24) + 1)) 90 v2 (((10 * ((gI s2 92 (gI s2 72 24)) - 48)) + (gI s4 92 (gI s4 72 24))) - 48)) 72 24) + 1))) ∧ ((gI (sI (sI s4 72 24 ((gI s4 72 24) + 1)) 90 v2 (((10 * ((gI s2 92 (gI s2 72 24)) - 48)) + (gI s4 92 (gI s4 72 24))) - 48)) 92 (gI (sI (sI s4 72 24 ((gI s4 72 24) + 1)) 90 v2 (((10 * ((gI s2 92 (gI s2 72 24)) - 48)) + (gI s4 92 (gI s4 72 24))) - 48)) 72 24)) ≠ 46 → Q (-1) (sI (sI s4 72 24 ((gI s4 72 24) + 1)) 90 v2 (((10 * ((gI s2 92 (gI s2 72 24)) - 48)) + (gI s4 92 (gI s4 72 24))) - 48))))) ∧ ((gI (sI (sI s4 72 24 ((gI s4 72 24) + 1)) 90 v2 (((10 * ((gI s2 92 (gI s2 72 24)) - 48)) + (gI s4 92 (gI s4 72 24))) - 48)) 72 24) = (gI (sI (sI s4 72 24 ((gI s4 72 24) + 1)) 90 v2 (((10 * ((gI s2 92 (gI s2 72 24)) - 48)) + (gI s4 92 (gI s4 72 24))) - 48)) 72 23) → i32 ((v2 + 1)) ∧ Q (v2 + 1) (sI (sI s4 72 24 ((gI s4 72 24) + 1)) 90 v2 (((10 * ((gI s2 92 (gI s2 72 24)) - 48)) + (gI s4 92 (gI s4 72 24))) - 48))))) (fun s4 => ((0 : Int) ≤ v2 ∧ v2 < 50) ∧ i32 ((gI (sI s4 90 v2 ((gI s2 92 (gI s2 72 24)) - 48)) 72 24)) ∧ i32 ((gI (sI s4 90 v2 ((gI s2 92 (gI s2 72 24)) - 48)) 72 23)) ∧ (((gI (sI s4 90 v2 ((gI s2 92 (gI s2 72 24)) - 48)) 72 24) ≠ (gI (sI s4 90 v2 ((gI s2 92 (gI s2 72 24)) - 48)) 72 23) → ((0 : Int) ≤ (gI (sI s4 90 v2 ((gI s2 92 (gI s2 72 24)) - 48)) 72 24) ∧ (gI (sI s4 90 v2 ((gI s2 92 (gI s2 72 24)) - 48)) 72 24) < 80) ∧ i32 ((gI (sI s4 90 v2 ((gI s2 92 (gI s2 72 24)) - 48)) 92 (gI (sI s4 90 v2 ((gI s2 92 (gI s2 72 24)) - 48)) 72 24))) ∧ (((gI (sI s4 90 v2 ((gI s2 92 (gI s2 72 24)) - 48)) 92 (gI (sI s4 90 v2 ((gI s2 92 (gI s2 72 24)) - 48)) 72 24)) = 46 → Wx K_X8_reads (QI Q) 7 [(0, .ref 72), (1, .int (iI v1)), (2, .int (iI (v2 + 1)))] [] (sI (sI s4 90 v2 ((gI s2 92 (gI s2 72 24)) - 48)) 72 24 ((gI (sI s4 90 v2 ((gI s2 92 (gI s2 72 24)) - 48)) 72 24) + 1))) ∧ ((gI (sI s4 90 v2 ((gI s2 92 (gI s2 72 24)) - 48)) 92 (gI (sI s4 90 v2 ((gI s2 92 (gI s2 72 24)) - 48)) 72 24)) ≠ 46 → Q (-1) (sI s4 90 v2 ((gI s2 92 (gI s2 72 24)) - 48))))) ∧ ((gI (sI s4 90 v2 ((gI s2 92 (gI s2 72 24)) - 48)) 72 24) = (gI (sI s4 90 v2 ((gI s2 92 (gI s2 72 24)) - 48)) 72 23) → i32 ((v2 + 1)) ∧ Q (v2 + 1) (sI s4 90 v2 ((gI s2 92 (gI s2 72 24)) - 48)))))) (fun s2 => Q (-1) s2)))) : Wx K_X8_reads (QI Q) 7 [(0, .ref 72), (1, .int (iI v1)), (2, .int (iI v2))] [] σ := by
  intro p l e s m args below meth c D cA ad X0 hr hlk
  have X : Cx p s m args c (adA ad) D cA ad RX8 cX8_reads 4 := X0
  refine g_iload_n X 2 dX8_reads_7 rfl ?_
  refine g_iload_n X 1 dX8_reads_8 rfl ?_
  refine g_icmp_eq X (tgt := 19) dX8_reads_9 (by decide) h32v2 h32v1 (fun c1 => ?_) (fun c1 => ?_)
  · have h := h.1 c1
    refine g_iconst X dX8_reads_19 ?_
    exact g_iret X hr hlk dX8_reads_20 rfl ⟨_, rfl, (by omega), h⟩
  · have h := h.2 c1
    refine g_aload_n X 0 dX8_reads_12 rfl ?_
    refine g_cVZ X (K := K_X8_isFigure) [] [] dX8_reads_13 lv_X8_244 rm_X8_reads_X8_isFigure ⟨by decide, by decide⟩ adA_id rfl rfl rfl (Nat.le_of_ble_eq_true rfl) rfl h (fun s2 h => ?_) (fun s2 h => ?_)
    · skip
      refine g_if_ne X (tgt := 21) dX8_reads_16 (by decide) (by omega) (fun _ => ?_) (fun hc => absurd hc (by decide))
      refine g_aload_n X 0 dX8_reads_21 rfl ?_
      refine g_getF X (f := 92) dX8_reads_22 lf_X8_70 rfl rfl rfl ?_
      refine g_aload_n X 0 dX8_reads_25 rfl ?_
      refine g_getI X (z := 24) dX8_reads_26 lf_X8_237 rfl rfl rfl ?_
      obtain ⟨q3, h⟩ := h
      refine g_iald X dX8_reads_29 rfl q3.1 q3.2 ?_
      refine g_bipush X dX8_reads_30 (by decide +kernel) ?_
      refine g_isub X dX8_reads_32 ?_
      refine g_istore_n X (lv' := [(3, .int (iI ((gI s2 92 (gI s2 72 24)) - 48))), (0, .ref 72), (1, .int (iI v1)), (2, .int (iI v2))]) dX8_reads_33 (by decide) rfl ?_
      refine g_aload_n X 1 dX8_reads_34 rfl ?_
      refine g_dup X dX8_reads_35 rfl ?_
      refine g_getI X (z := 24) dX8_reads_36 lf_X8_237 rfl rfl rfl ?_
      refine g_iconst X dX8_reads_39 ?_
      refine g_iadd X dX8_reads_40 ?_
      refine g_putI X (j := 24) (z := 24) dX8_reads_41 lp_X8_237 rfl rfl rfl ?_
      refine g_aload_n X 1 dX8_reads_44 rfl ?_
      refine g_cVZ X (K := K_X8_isFigure) [] [] dX8_reads_45 lv_X8_244 rm_X8_reads_X8_isFigure ⟨by decide, by decide⟩ adA_id rfl rfl rfl (Nat.le_of_ble_eq_true rfl) rfl h (fun s4 h => ?_) (fun s4 h => ?_)
      · skip
        refine g_if_eq X (tgt := 79) dX8_reads_48 (by decide) (by omega) (fun hc => absurd hc (by decide)) (fun _ => ?_)
        refine g_bipush X dX8_reads_51 (by decide +kernel) ?_
        refine g_iload_n X 0 dX8_reads_53 rfl ?_
        refine g_imul X dX8_reads_54 ?_
        refine g_aload_n X 1 dX8_reads_55 rfl ?_
        refine g_getF X (f := 92) dX8_reads_56 lf_X8_70 rfl rfl rfl ?_
        refine g_aload_n X 1 dX8_reads_59 rfl ?_
        refine g_getI X (z := 24) dX8_reads_60 lf_X8_237 rfl rfl rfl ?_
        obtain ⟨q5, h⟩ := h
        refine g_iald X dX8_reads_63 rfl q5.1 q5.2 ?_
        refine g_iadd X dX8_reads_64 ?_
        refine g_bipush X dX8_reads_65 (by decide +kernel) ?_
        refine g_isub X dX8_reads_67 ?_
        refine g_istore_n X (lv' := [(3, .int (iI (((10 * ((gI s2 92 (gI s2 72 24)) - 48)) + (gI s4 92 (gI s4 72 24))) - 48))), (0, .ref 72), (1, .int (iI v1)), (2, .int (iI v2))]) dX8_reads_68 (by decide) rfl ?_
        refine g_aload_n X 1 dX8_reads_69 rfl ?_
        refine g_dup X dX8_reads_70 rfl ?_
        refine g_getI X (z := 24) dX8_reads_71 lf_X8_237 rfl rfl rfl ?_
        refine g_iconst X dX8_reads_74 ?_
        refine g_iadd X dX8_reads_75 ?_
        refine g_putI X (j := 24) (z := 24) dX8_reads_76 lp_X8_237 rfl rfl rfl ?_
        refine g_aload_n X 1 dX8_reads_79 rfl ?_
        refine g_getF X (f := 90) dX8_reads_80 lf_X8_64 rfl rfl rfl ?_
        refine g_iload_n X 3 dX8_reads_83 rfl ?_
        refine g_iload_n X 0 dX8_reads_84 rfl ?_
        obtain ⟨q6, h⟩ := h
        refine g_iast X dX8_reads_85 rfl q6.1 q6.2 ?_
        refine g_iinc X (x := v2) (lv' := [(2, .int (iI (v2 + 1))), (3, .int (iI (((10 * ((gI s2 92 (gI s2 72 24)) - 48)) + (gI s4 92 (gI s4 72 24))) - 48))), (0, .ref 72), (1, .int (iI v1))]) 3 dX8_reads_86 rfl (by decide) rfl ?_
        refine g_aload_n X 2 dX8_reads_89 rfl ?_
        refine g_getI X (z := 24) dX8_reads_90 lf_X8_237 rfl rfl rfl ?_
        refine g_aload_n X 2 dX8_reads_93 rfl ?_
        refine g_getI X (z := 23) dX8_reads_94 lf_X8_234 rfl rfl rfl ?_
        obtain ⟨q7, h⟩ := h
        obtain ⟨q8, h⟩ := h
        refine g_icmp_ne X (tgt := 102) dX8_reads_97 (by decide) q7 q8 (fun c9 => ?_) (fun c9 => ?_)
        · have h := h.1 c9
          refine g_aload_n X 2 dX8_reads_102 rfl ?_
          refine g_getF X (f := 92) dX8_reads_103 lf_X8_70 rfl rfl rfl ?_
          refine g_aload_n X 2 dX8_reads_106 rfl ?_
          refine g_getI X (z := 24) dX8_reads_107 lf_X8_237 rfl rfl rfl ?_
          obtain ⟨q10, h⟩ := h
          refine g_iald X dX8_reads_110 rfl q10.1 q10.2 ?_
          refine g_bipush X dX8_reads_111 (by decide +kernel) ?_
          obtain ⟨q11, h⟩ := h
          refine g_icmp_eq X (tgt := 118) dX8_reads_113 (by decide) q11 (by omega) (fun c12 => ?_) (fun c12 => ?_)
          · have h := h.1 c12
            refine g_aload_n X 2 dX8_reads_118 rfl ?_
            refine g_dup X dX8_reads_119 rfl ?_
            refine g_getI X (z := 24) dX8_reads_120 lf_X8_237 rfl rfl rfl ?_
            refine g_iconst X dX8_reads_123 ?_
            refine g_iadd X dX8_reads_124 ?_
            refine g_putI X (j := 24) (z := 24) dX8_reads_125 lp_X8_237 rfl rfl rfl ?_
            refine g_goto X (tgt := 7) dX8_reads_128 (by decide) ?_
            exact g_sub (lv' := [(0, .ref 72), (1, .int (iI v1)), (2, .int (iI (v2 + 1)))]) [2, 3, 0] rfl (h p l e s m args below meth c D cA ad X0 hr hlk)
          · have h := h.2 c12
            refine g_iconst X dX8_reads_116 ?_
            exact g_iret X hr hlk dX8_reads_117 rfl ⟨_, rfl, (by omega), h⟩
        · have h := h.2 c9
          refine g_iload_n X 0 dX8_reads_100 rfl ?_
          obtain ⟨q13, h⟩ := h
          exact g_iret X hr hlk dX8_reads_101 rfl ⟨_, rfl, q13, h⟩
      · skip
        refine g_if_eq X (tgt := 79) dX8_reads_48 (by decide) (by omega) (fun _ => ?_) (fun hc => absurd hc (by decide))
        refine g_aload_n X 1 dX8_reads_79 rfl ?_
        refine g_getF X (f := 90) dX8_reads_80 lf_X8_64 rfl rfl rfl ?_
        refine g_iload_n X 3 dX8_reads_83 rfl ?_
        refine g_iload_n X 0 dX8_reads_84 rfl ?_
        obtain ⟨q14, h⟩ := h
        refine g_iast X dX8_reads_85 rfl q14.1 q14.2 ?_
        refine g_iinc X (x := v2) (lv' := [(2, .int (iI (v2 + 1))), (3, .int (iI ((gI s2 92 (gI s2 72 24)) - 48))), (0, .ref 72), (1, .int (iI v1))]) 3 dX8_reads_86 rfl (by decide) rfl ?_
        refine g_aload_n X 2 dX8_reads_89 rfl ?_
        refine g_getI X (z := 24) dX8_reads_90 lf_X8_237 rfl rfl rfl ?_
        refine g_aload_n X 2 dX8_reads_93 rfl ?_
        refine g_getI X (z := 23) dX8_reads_94 lf_X8_234 rfl rfl rfl ?_
        obtain ⟨q15, h⟩ := h
        obtain ⟨q16, h⟩ := h
        refine g_icmp_ne X (tgt := 102) dX8_reads_97 (by decide) q15 q16 (fun c17 => ?_) (fun c17 => ?_)
        · have h := h.1 c17
          refine g_aload_n X 2 dX8_reads_102 rfl ?_
          refine g_getF X (f := 92) dX8_reads_103 lf_X8_70 rfl rfl rfl ?_
          refine g_aload_n X 2 dX8_reads_106 rfl ?_
          refine g_getI X (z := 24) dX8_reads_107 lf_X8_237 rfl rfl rfl ?_
          obtain ⟨q18, h⟩ := h
          refine g_iald X dX8_reads_110 rfl q18.1 q18.2 ?_
          refine g_bipush X dX8_reads_111 (by decide +kernel) ?_
          obtain ⟨q19, h⟩ := h
          refine g_icmp_eq X (tgt := 118) dX8_reads_113 (by decide) q19 (by omega) (fun c20 => ?_) (fun c20 => ?_)
          · have h := h.1 c20
            refine g_aload_n X 2 dX8_reads_118 rfl ?_
            refine g_dup X dX8_reads_119 rfl ?_
            refine g_getI X (z := 24) dX8_reads_120 lf_X8_237 rfl rfl rfl ?_
            refine g_iconst X dX8_reads_123 ?_
            refine g_iadd X dX8_reads_124 ?_
            refine g_putI X (j := 24) (z := 24) dX8_reads_125 lp_X8_237 rfl rfl rfl ?_
            refine g_goto X (tgt := 7) dX8_reads_128 (by decide) ?_
            exact g_sub (lv' := [(0, .ref 72), (1, .int (iI v1)), (2, .int (iI (v2 + 1)))]) [2, 3, 0] rfl (h p l e s m args below meth c D cA ad X0 hr hlk)
          · have h := h.2 c20
            refine g_iconst X dX8_reads_116 ?_
            exact g_iret X hr hlk dX8_reads_117 rfl ⟨_, rfl, (by omega), h⟩
        · have h := h.2 c17
          refine g_iload_n X 0 dX8_reads_100 rfl ?_
          obtain ⟨q21, h⟩ := h
          exact g_iret X hr hlk dX8_reads_101 rfl ⟨_, rfl, q21, h⟩
    · skip
      refine g_if_ne X (tgt := 21) dX8_reads_16 (by decide) (by omega) (fun hc => absurd hc (by decide)) (fun _ => ?_)
      refine g_iconst X dX8_reads_19 ?_
      exact g_iret X hr hlk dX8_reads_20 rfl ⟨_, rfl, (by omega), h⟩
theorem bX8_read_0 {v1 : Int} {v2 : Int} {σ : ASt} {Q : Int → ASt → Prop}  (h : EvZ K_X8_isReel [.int (iI v1)] σ (fun s1 => EvZ K_X8_isBase [.int (iI v2)] s1 (fun s2 => ((0 : Int) ≤ v2 ∧ v2 < 3) ∧ EvI K_X8_reads [.ref 72, .int (iI (gI s2 75 v2))] s2 (fun x5 s4 => ((x5 ≠ (-1) → Wx K_X8_read (QI Q) 49 [(0, .ref 72), (1, .int (iI v1)), (2, .int (iI v2)), (3, .int (iI x5)), (4, .int (iI 0))] [] (sI s4 72 23 0)) ∧ (x5 = (-1) → i32 (((-100) - (gI (sI s4 72 23 0) 72 24))) ∧ Q ((-100) - (gI (sI s4 72 23 0) 72 24)) (sI s4 72 23 0))))) (fun s2 => Q (-2) s2)) (fun s1 => Q (-2) s1)) : Wx K_X8_read (QI Q) 0 [(0, .ref 72), (1, .int (iI v1)), (2, .int (iI v2))] [] σ := by
  intro p l e s m args below meth c D cA ad X0 hr hlk
  have X : Cx p s m args c (adA ad) D cA ad RX8 cX8_read 5 := X0
  refine g_iload_n X 1 dX8_read_0 rfl ?_
  refine g_cSZ X (K := K_X8_isReel) [.int (iI v1)] [] dX8_read_1 ls_X8_149 rm_X8_read_X8_isReel ⟨by decide, by decide⟩ adA_id rfl (Nat.le_of_ble_eq_true rfl) rfl h (fun s1 h => ?_) (fun s1 h => ?_)
  · skip
    refine g_if_eq X (tgt := 14) dX8_read_4 (by decide) (by omega) (fun hc => absurd hc (by decide)) (fun _ => ?_)
    refine g_iload_n X 2 dX8_read_7 rfl ?_
    refine g_cSZ X (K := K_X8_isBase) [.int (iI v2)] [] dX8_read_8 ls_X8_114 rm_X8_read_X8_isBase ⟨by decide, by decide⟩ adA_id rfl (Nat.le_of_ble_eq_true rfl) rfl h (fun s2 h => ?_) (fun s2 h => ?_)
    · skip
      refine g_if_ne X (tgt := 17) dX8_read_11 (by decide) (by omega) (fun _ => ?_) (fun hc => absurd hc (by decide))
      refine g_aload_n X 0 dX8_read_17 rfl ?_
      refine g_aload_n X 0 dX8_read_18 rfl ?_
      refine g_getF X (f := 75) dX8_read_19 lf_X8_18 rfl rfl rfl ?_
      refine g_iload_n X 2 dX8_read_22 rfl ?_
      obtain ⟨q3, h⟩ := h
      refine g_iald X dX8_read_23 rfl q3.1 q3.2 ?_
      refine g_cVI X (K := K_X8_reads) [.int (iI (gI s2 75 v2))] [] dX8_read_24 lv_X8_248 rm_X8_read_X8_reads ⟨by decide, by decide⟩ adA_id rfl rfl rfl (Nat.le_of_ble_eq_true rfl) rfl h (fun x5 s4 q6 h => ?_)
      refine g_istore_n X (lv' := [(3, .int (iI x5)), (0, .ref 72), (1, .int (iI v1)), (2, .int (iI v2))]) dX8_read_27 (by decide) rfl ?_
      refine g_aload_n X 1 dX8_read_28 rfl ?_
      refine g_iconst X dX8_read_29 ?_
      refine g_putI X (j := 23) (z := 23) dX8_read_30 lp_X8_234 rfl rfl rfl ?_
      refine g_iload_n X 0 dX8_read_33 rfl ?_
      refine g_iconst X dX8_read_34 ?_
      refine g_icmp_ne X (tgt := 46) dX8_read_35 (by decide) q6 (by omega) (fun c7 => ?_) (fun c7 => ?_)
      · have h := h.1 c7
        refine g_iconst X dX8_read_46 ?_
        refine g_istore X (lv' := [(4, .int (iI 0)), (3, .int (iI x5)), (0, .ref 72), (1, .int (iI v1)), (2, .int (iI v2))]) dX8_read_47 (by decide) rfl ?_
        exact g_sub (lv' := [(0, .ref 72), (1, .int (iI v1)), (2, .int (iI v2)), (3, .int (iI x5)), (4, .int (iI 0))]) [2, 3, 4, 1, 0] rfl (h p l e s m args below meth c D cA ad X0 hr hlk)
      · have h := h.2 c7
        refine g_bipush X dX8_read_38 (by decide +kernel) ?_
        refine g_aload_n X 1 dX8_read_40 rfl ?_
        refine g_getI X (z := 24) dX8_read_41 lf_X8_237 rfl rfl rfl ?_
        refine g_isub X dX8_read_44 ?_
        obtain ⟨q8, h⟩ := h
        exact g_iret X hr hlk dX8_read_45 rfl ⟨_, rfl, q8, h⟩
    · skip
      refine g_if_ne X (tgt := 17) dX8_read_11 (by decide) (by omega) (fun hc => absurd hc (by decide)) (fun _ => ?_)
      refine g_bipush X dX8_read_14 (by decide +kernel) ?_
      exact g_iret X hr hlk dX8_read_16 rfl ⟨_, rfl, (by omega), h⟩
  · skip
    refine g_if_eq X (tgt := 14) dX8_read_4 (by decide) (by omega) (fun _ => ?_) (fun hc => absurd hc (by decide))
    refine g_bipush X dX8_read_14 (by decide +kernel) ?_
    exact g_iret X hr hlk dX8_read_16 rfl ⟨_, rfl, (by omega), h⟩
theorem eX8_read {v1 : Int} {v2 : Int} {σ : ASt} {Q : Int → ASt → Prop}  (h : EvZ K_X8_isReel [.int (iI v1)] σ (fun s1 => EvZ K_X8_isBase [.int (iI v2)] s1 (fun s2 => ((0 : Int) ≤ v2 ∧ v2 < 3) ∧ EvI K_X8_reads [.ref 72, .int (iI (gI s2 75 v2))] s2 (fun x5 s4 => ((x5 ≠ (-1) → Wx K_X8_read (QI Q) 49 [(0, .ref 72), (1, .int (iI v1)), (2, .int (iI v2)), (3, .int (iI x5)), (4, .int (iI 0))] [] (sI s4 72 23 0)) ∧ (x5 = (-1) → i32 (((-100) - (gI (sI s4 72 23 0) 72 24))) ∧ Q ((-100) - (gI (sI s4 72 23 0) 72 24)) (sI s4 72 23 0))))) (fun s2 => Q (-2) s2)) (fun s1 => Q (-2) s1)) : EvI K_X8_read [.ref 72, .int (iI v1), .int (iI v2)] σ Q := Ev.of rfl (Nat.le_of_ble_eq_true rfl) rfl (bX8_read_0  h)
theorem bX8_read_49 {v1 : Int} {v2 : Int} {v3 : Int} {v4 : Int} {σ : ASt} {Q : Int → ASt → Prop} (h32v3 : i32 v3) (h32v4 : i32 v4) (h : ((0 : Int) ≤ v2 ∧ v2 < 3) ∧ i32 ((gI σ 75 v2)) ∧ (((gI σ 75 v2) ≤ v4 → EvI K_X8_holds [.ref 72, .int (iI v1), .int (iI v2)] σ (fun x5 s4 => Q v3 s4)) ∧ (v4 < (gI σ 75 v2) → ((v3 ≤ v4 → ((0 : Int) ≤ v4 ∧ v4 < 50) ∧ Wx K_X8_read (QI Q) 49 [(0, .ref 72), (1, .int (iI v1)), (2, .int (iI v2)), (3, .int (iI v3)), (4, .int (iI (v4 + 1)))] [] (sI σ 80 v4 0)) ∧ (v4 < v3 → ((0 : Int) ≤ ((v3 - 1) - v4) ∧ ((v3 - 1) - v4) < 50) ∧ ((0 : Int) ≤ v4 ∧ v4 < 50) ∧ Wx K_X8_read (QI Q) 49 [(0, .ref 72), (1, .int (iI v1)), (2, .int (iI v2)), (3, .int (iI v3)), (4, .int (iI (v4 + 1)))] [] (sI σ 80 v4 (gI σ 90 ((v3 - 1) - v4)))))))) : Wx K_X8_read (QI Q) 49 [(0, .ref 72), (1, .int (iI v1)), (2, .int (iI v2)), (3, .int (iI v3)), (4, .int (iI v4))] [] σ := by
  intro p l e s m args below meth c D cA ad X0 hr hlk
  have X : Cx p s m args c (adA ad) D cA ad RX8 cX8_read 5 := X0
  refine g_iload X 4 dX8_read_49 rfl ?_
  refine g_aload_n X 0 dX8_read_51 rfl ?_
  refine g_getF X (f := 75) dX8_read_52 lf_X8_18 rfl rfl rfl ?_
  refine g_iload_n X 2 dX8_read_55 rfl ?_
  obtain ⟨q1, h⟩ := h
  refine g_iald X dX8_read_56 rfl q1.1 q1.2 ?_
  obtain ⟨q2, h⟩ := h
  refine g_icmp_ge X (tgt := 94) dX8_read_57 (by decide) h32v4 q2 (fun c3 => ?_) (fun c3 => ?_)
  · have h := h.1 c3
    refine g_aload_n X 0 dX8_read_94 rfl ?_
    refine g_iload_n X 1 dX8_read_95 rfl ?_
    refine g_iload_n X 2 dX8_read_96 rfl ?_
    refine g_cVI X (K := K_X8_holds) [.int (iI v1), .int (iI v2)] [] dX8_read_97 lv_X8_156 rm_X8_read_X8_holds ⟨by decide, by decide⟩ adA_id rfl rfl rfl (Nat.le_of_ble_eq_true rfl) rfl h (fun x5 s4 q6 h => ?_)
    refine g_istore X (lv' := [(4, .int (iI x5)), (0, .ref 72), (1, .int (iI v1)), (2, .int (iI v2)), (3, .int (iI v3))]) dX8_read_100 (by decide) rfl ?_
    refine g_iload_n X 4 dX8_read_102 rfl ?_
    exact g_iret X hr hlk dX8_read_103 rfl ⟨_, rfl, h32v3, h⟩
  · have h := h.2 c3
    refine g_aload_n X 0 dX8_read_60 rfl ?_
    refine g_getF X (f := 80) dX8_read_61 lf_X8_34 rfl rfl rfl ?_
    refine g_iload X 4 dX8_read_64 rfl ?_
    refine g_iload X 4 dX8_read_66 rfl ?_
    refine g_iload_n X 3 dX8_read_68 rfl ?_
    refine g_icmp_ge X (tgt := 86) dX8_read_69 (by decide) h32v4 h32v3 (fun c7 => ?_) (fun c7 => ?_)
    · have h := h.1 c7
      refine g_iconst X dX8_read_86 ?_
      obtain ⟨q8, h⟩ := h
      refine g_iast X dX8_read_87 rfl q8.1 q8.2 ?_
      refine g_iinc X (x := v4) (lv' := [(4, .int (iI (v4 + 1))), (0, .ref 72), (1, .int (iI v1)), (2, .int (iI v2)), (3, .int (iI v3))]) 4 dX8_read_88 rfl (by decide) rfl ?_
      refine g_goto X (tgt := 49) dX8_read_91 (by decide) ?_
      exact g_sub (lv' := [(0, .ref 72), (1, .int (iI v1)), (2, .int (iI v2)), (3, .int (iI v3)), (4, .int (iI (v4 + 1)))]) [1, 2, 3, 4, 0] rfl (h p l e s m args below meth c D cA ad X0 hr hlk)
    · have h := h.2 c7
      refine g_aload_n X 0 dX8_read_72 rfl ?_
      refine g_getF X (f := 90) dX8_read_73 lf_X8_64 rfl rfl rfl ?_
      refine g_iload_n X 3 dX8_read_76 rfl ?_
      refine g_iconst X dX8_read_77 ?_
      refine g_isub X dX8_read_78 ?_
      refine g_iload X 4 dX8_read_79 rfl ?_
      refine g_isub X dX8_read_81 ?_
      obtain ⟨q9, h⟩ := h
      refine g_iald X dX8_read_82 rfl q9.1 q9.2 ?_
      refine g_goto X (tgt := 87) dX8_read_83 (by decide) ?_
      obtain ⟨q10, h⟩ := h
      refine g_iast X dX8_read_87 rfl q10.1 q10.2 ?_
      refine g_iinc X (x := v4) (lv' := [(4, .int (iI (v4 + 1))), (0, .ref 72), (1, .int (iI v1)), (2, .int (iI v2)), (3, .int (iI v3))]) 4 dX8_read_88 rfl (by decide) rfl ?_
      refine g_goto X (tgt := 49) dX8_read_91 (by decide) ?_
      exact g_sub (lv' := [(0, .ref 72), (1, .int (iI v1)), (2, .int (iI v2)), (3, .int (iI v3)), (4, .int (iI (v4 + 1)))]) [1, 2, 3, 4, 0] rfl (h p l e s m args below meth c D cA ad X0 hr hlk)
theorem bX8_right_0 {v1 : Int} {σ : ASt} {Q : Int → ASt → Prop}  (h : EvI K_X8_refusal [.ref 72, .int (iI v1)] σ (fun x2 s1 => ((x2 = 0 → EvL K_X8_valueOf [.ref 72, .int (iI v1)] s1 (fun x6 s5 => ((0 : Int) ≤ v1 ∧ v1 < 6) ∧ ((0 : Int) ≤ (gI s5 78 v1) ∧ (gI s5 78 v1) < 3) ∧ i64 ((gL s5 77 (gI s5 78 v1))) ∧ ((x6 ≤ (gL s5 77 (gI s5 78 v1)) → EvL K_X8_valueOf [.ref 72, .int (iI v1)] s5 (fun x13 s12 => EvV K_X8_makes [.ref 72, .int (iI (gI s5 78 v1)), .long (lI x13)] s12 (fun s15 => EvV K_X8_does [.ref 72, .int (iI v1)] s15 (fun s16 => EvI K_X8_takes [.ref 72, .int (iI v1)] s16 (fun x18 s17 => Q x18 s17))))) ∧ ((gL s5 77 (gI s5 78 v1)) < x6 → Q (-3) s5)))) ∧ (x2 ≠ 0 → Q x2 s1)))) : Wx K_X8_right (QI Q) 0 [(0, .ref 72), (1, .int (iI v1))] [] σ := by
  intro p l e s m args below meth c D cA ad X0 hr hlk
  have X : Cx p s m args c (adA ad) D cA ad RX8 cX8_right 3 := X0
  refine g_aload_n X 0 dX8_right_0 rfl ?_
  refine g_iload_n X 1 dX8_right_1 rfl ?_
  refine g_cVI X (K := K_X8_refusal) [.int (iI v1)] [] dX8_right_2 lv_X8_162 rm_X8_right_X8_refusal ⟨by decide, by decide⟩ adA_id rfl rfl rfl (Nat.le_of_ble_eq_true rfl) rfl h (fun x2 s1 q3 h => ?_)
  refine g_istore_n X (lv' := [(2, .int (iI x2)), (0, .ref 72), (1, .int (iI v1))]) dX8_right_5 (by decide) rfl ?_
  refine g_iload_n X 0 dX8_right_6 rfl ?_
  refine g_if_eq X (tgt := 12) dX8_right_7 (by decide) q3 (fun c4 => ?_) (fun c4 => ?_)
  · have h := h.1 c4
    refine g_aload_n X 1 dX8_right_12 rfl ?_
    refine g_iload_n X 2 dX8_right_13 rfl ?_
    refine g_cVL X (K := K_X8_valueOf) [.int (iI v1)] [] dX8_right_14 lv_X8_174 rm_X8_right_X8_valueOf ⟨by decide, by decide⟩ adA_id rfl rfl rfl (Nat.le_of_ble_eq_true rfl) rfl h (fun x6 s5 q7 h => ?_)
    refine g_aload_n X 1 dX8_right_17 rfl ?_
    refine g_getF X (f := 77) dX8_right_18 lf_X8_25 rfl rfl rfl ?_
    refine g_aload_n X 1 dX8_right_21 rfl ?_
    refine g_getF X (f := 78) dX8_right_22 lf_X8_28 rfl rfl rfl ?_
    refine g_iload_n X 2 dX8_right_25 rfl ?_
    obtain ⟨q8, h⟩ := h
    refine g_iald X dX8_right_26 rfl q8.1 q8.2 ?_
    obtain ⟨q9, h⟩ := h
    refine g_lald X dX8_right_27 rfl q9.1 q9.2 ?_
    obtain ⟨q10, h⟩ := h
    refine g_lc_le X (tgt := 35) dX8_right_28 dX8_right_29 (by decide) q7 q10 (fun c11 => ?_) (fun c11 => ?_)
    · have h := h.1 c11
      refine g_aload_n X 1 dX8_right_35 rfl ?_
      refine g_aload_n X 1 dX8_right_36 rfl ?_
      refine g_getF X (f := 78) dX8_right_37 lf_X8_28 rfl rfl rfl ?_
      refine g_iload_n X 2 dX8_right_40 rfl ?_
      refine g_iald X dX8_right_41 rfl q8.1 q8.2 ?_
      refine g_aload_n X 1 dX8_right_42 rfl ?_
      refine g_iload_n X 2 dX8_right_43 rfl ?_
      refine g_cVL X (K := K_X8_valueOf) [.int (iI v1)] [.int (iI (gI s5 78 v1)), .ref 72] dX8_right_44 lv_X8_174 rm_X8_right_X8_valueOf ⟨by decide, by decide⟩ adA_id rfl rfl rfl (Nat.le_of_ble_eq_true rfl) rfl h (fun x13 s12 q14 h => ?_)
      refine g_cVV X (K := K_X8_makes) [.int (iI (gI s5 78 v1)), .long (lI x13)] [] dX8_right_47 lv_X8_152 rm_X8_right_X8_makes ⟨by decide, by decide⟩ adA_id rfl rfl rfl (Nat.le_of_ble_eq_true rfl) rfl h (fun s15 h => ?_)
      refine g_aload_n X 1 dX8_right_50 rfl ?_
      refine g_iload_n X 2 dX8_right_51 rfl ?_
      refine g_cVV X (K := K_X8_does) [.int (iI v1)] [] dX8_right_52 lv_X8_188 rm_X8_right_X8_does ⟨by decide, by decide⟩ adA_id rfl rfl rfl (Nat.le_of_ble_eq_true rfl) rfl h (fun s16 h => ?_)
      refine g_aload_n X 1 dX8_right_55 rfl ?_
      refine g_iload_n X 2 dX8_right_56 rfl ?_
      refine g_cVI X (K := K_X8_takes) [.int (iI v1)] [] dX8_right_57 lv_X8_143 rm_X8_right_X8_takes ⟨by decide, by decide⟩ adA_id rfl rfl rfl (Nat.le_of_ble_eq_true rfl) rfl h (fun x18 s17 q19 h => ?_)
      exact g_iret X hr hlk dX8_right_60 rfl ⟨_, rfl, q19, h⟩
    · have h := h.2 c11
      refine g_bipush X dX8_right_32 (by decide +kernel) ?_
      exact g_iret X hr hlk dX8_right_34 rfl ⟨_, rfl, (by omega), h⟩
  · have h := h.2 c4
    refine g_iload_n X 0 dX8_right_10 rfl ?_
    exact g_iret X hr hlk dX8_right_11 rfl ⟨_, rfl, q3, h⟩
theorem eX8_right {v1 : Int} {σ : ASt} {Q : Int → ASt → Prop}  (h : EvI K_X8_refusal [.ref 72, .int (iI v1)] σ (fun x2 s1 => ((x2 = 0 → EvL K_X8_valueOf [.ref 72, .int (iI v1)] s1 (fun x6 s5 => ((0 : Int) ≤ v1 ∧ v1 < 6) ∧ ((0 : Int) ≤ (gI s5 78 v1) ∧ (gI s5 78 v1) < 3) ∧ i64 ((gL s5 77 (gI s5 78 v1))) ∧ ((x6 ≤ (gL s5 77 (gI s5 78 v1)) → EvL K_X8_valueOf [.ref 72, .int (iI v1)] s5 (fun x13 s12 => EvV K_X8_makes [.ref 72, .int (iI (gI s5 78 v1)), .long (lI x13)] s12 (fun s15 => EvV K_X8_does [.ref 72, .int (iI v1)] s15 (fun s16 => EvI K_X8_takes [.ref 72, .int (iI v1)] s16 (fun x18 s17 => Q x18 s17))))) ∧ ((gL s5 77 (gI s5 78 v1)) < x6 → Q (-3) s5)))) ∧ (x2 ≠ 0 → Q x2 s1)))) : EvI K_X8_right [.ref 72, .int (iI v1)] σ Q := Ev.of rfl (Nat.le_of_ble_eq_true rfl) rfl (bX8_right_0  h)
theorem bX8_settle_0 {v1 : Int} {σ : ASt} {Q : Int → ASt → Prop}  (h : EvI K_X8_refusal [.ref 72, .int (iI v1)] σ (fun x2 s1 => ((x2 = 0 → EvV K_X8_does [.ref 72, .int (iI v1)] s1 (fun s5 => EvI K_X8_high [.ref 72, .int (iI v1)] s5 (fun x7 s6 => Wx K_X8_settle (QI Q) 28 [(0, .ref 72), (1, .int (iI v1)), (3, .int (iI 0)), (4, .int (iI (x7 - 2)))] [] s6))) ∧ (x2 ≠ 0 → Q x2 s1)))) : Wx K_X8_settle (QI Q) 0 [(0, .ref 72), (1, .int (iI v1))] [] σ := by
  intro p l e s m args below meth c D cA ad X0 hr hlk
  have X : Cx p s m args c (adA ad) D cA ad RX8 cX8_settle 5 := X0
  refine g_aload_n X 0 dX8_settle_0 rfl ?_
  refine g_iload_n X 1 dX8_settle_1 rfl ?_
  refine g_cVI X (K := K_X8_refusal) [.int (iI v1)] [] dX8_settle_2 lv_X8_162 rm_X8_settle_X8_refusal ⟨by decide, by decide⟩ adA_id rfl rfl rfl (Nat.le_of_ble_eq_true rfl) rfl h (fun x2 s1 q3 h => ?_)
  refine g_istore_n X (lv' := [(2, .int (iI x2)), (0, .ref 72), (1, .int (iI v1))]) dX8_settle_5 (by decide) rfl ?_
  refine g_iload_n X 0 dX8_settle_6 rfl ?_
  refine g_if_eq X (tgt := 12) dX8_settle_7 (by decide) q3 (fun c4 => ?_) (fun c4 => ?_)
  · have h := h.1 c4
    refine g_aload_n X 1 dX8_settle_12 rfl ?_
    refine g_iload_n X 2 dX8_settle_13 rfl ?_
    refine g_cVV X (K := K_X8_does) [.int (iI v1)] [] dX8_settle_14 lv_X8_188 rm_X8_settle_X8_does ⟨by decide, by decide⟩ adA_id rfl rfl rfl (Nat.le_of_ble_eq_true rfl) rfl h (fun s5 h => ?_)
    refine g_iconst X dX8_settle_17 ?_
    refine g_istore_n X (lv' := [(3, .int (iI 0)), (2, .int (iI x2)), (0, .ref 72), (1, .int (iI v1))]) dX8_settle_18 (by decide) rfl ?_
    refine g_aload_n X 2 dX8_settle_19 rfl ?_
    refine g_iload_n X 3 dX8_settle_20 rfl ?_
    refine g_cVI X (K := K_X8_high) [.int (iI v1)] [] dX8_settle_21 lv_X8_137 rm_X8_settle_X8_high ⟨by decide, by decide⟩ adA_id rfl rfl rfl (Nat.le_of_ble_eq_true rfl) rfl h (fun x7 s6 q8 h => ?_)
    refine g_iconst X dX8_settle_24 ?_
    refine g_isub X dX8_settle_25 ?_
    refine g_istore X (lv' := [(4, .int (iI (x7 - 2))), (3, .int (iI 0)), (2, .int (iI x2)), (0, .ref 72), (1, .int (iI v1))]) dX8_settle_26 (by decide) rfl ?_
    exact g_sub (lv' := [(0, .ref 72), (1, .int (iI v1)), (3, .int (iI 0)), (4, .int (iI (x7 - 2)))]) [3, 4, 1, 0] rfl (h p l e s m args below meth c D cA ad X0 hr hlk)
  · have h := h.2 c4
    refine g_iload_n X 0 dX8_settle_10 rfl ?_
    exact g_iret X hr hlk dX8_settle_11 rfl ⟨_, rfl, q3, h⟩
theorem eX8_settle {v1 : Int} {σ : ASt} {Q : Int → ASt → Prop}  (h : EvI K_X8_refusal [.ref 72, .int (iI v1)] σ (fun x2 s1 => ((x2 = 0 → EvV K_X8_does [.ref 72, .int (iI v1)] s1 (fun s5 => EvI K_X8_high [.ref 72, .int (iI v1)] s5 (fun x7 s6 => Wx K_X8_settle (QI Q) 28 [(0, .ref 72), (1, .int (iI v1)), (3, .int (iI 0)), (4, .int (iI (x7 - 2)))] [] s6))) ∧ (x2 ≠ 0 → Q x2 s1)))) : EvI K_X8_settle [.ref 72, .int (iI v1)] σ Q := Ev.of rfl (Nat.le_of_ble_eq_true rfl) rfl (bX8_settle_0  h)
theorem bX8_settle_28 {v1 : Int} {v3 : Int} {v4 : Int} {σ : ASt} {Q : Int → ASt → Prop} (h32v3 : i32 v3) (h32v4 : i32 v4) (h : ((v4 < 0 → Q v3 σ) ∧ (0 ≤ v4 → EvZ K_X8_can [.ref 72, .int (iI v1), .int (iI v4), .int (iI (-1))] σ (fun s2 => EvV K_X8_goes [.ref 72, .int (iI v1), .int (iI v4), .int (iI (-1))] s2 (fun s3 => EvI K_X8_high [.ref 72, .int (iI v1)] s3 (fun x5 s4 => Wx K_X8_settle (QI Q) 28 [(0, .ref 72), (1, .int (iI v1)), (3, .int (iI (v3 + 1))), (4, .int (iI (x5 - 2)))] [] s4))) (fun s2 => Wx K_X8_settle (QI Q) 28 [(0, .ref 72), (1, .int (iI v1)), (3, .int (iI v3)), (4, .int (iI (v4 + (-1))))] [] s2)))) : Wx K_X8_settle (QI Q) 28 [(0, .ref 72), (1, .int (iI v1)), (3, .int (iI v3)), (4, .int (iI v4))] [] σ := by
  intro p l e s m args below meth c D cA ad X0 hr hlk
  have X : Cx p s m args c (adA ad) D cA ad RX8 cX8_settle 5 := X0
  refine g_iload X 3 dX8_settle_28 rfl ?_
  refine g_if_lt X (tgt := 73) dX8_settle_30 (by decide) h32v4 (fun c1 => ?_) (fun c1 => ?_)
  · have h := h.1 c1
    refine g_iload_n X 2 dX8_settle_73 rfl ?_
    exact g_iret X hr hlk dX8_settle_74 rfl ⟨_, rfl, h32v3, h⟩
  · have h := h.2 c1
    refine g_aload_n X 0 dX8_settle_33 rfl ?_
    refine g_iload_n X 1 dX8_settle_34 rfl ?_
    refine g_iload X 3 dX8_settle_35 rfl ?_
    refine g_iconst X dX8_settle_37 ?_
    refine g_cVZ X (K := K_X8_can) [.int (iI v1), .int (iI v4), .int (iI (-1))] [] dX8_settle_38 lv_X8_191 rm_X8_settle_X8_can ⟨by decide, by decide⟩ adA_id rfl rfl rfl (Nat.le_of_ble_eq_true rfl) rfl h (fun s2 h => ?_) (fun s2 h => ?_)
    · skip
      refine g_if_ne X (tgt := 50) dX8_settle_41 (by decide) (by omega) (fun _ => ?_) (fun hc => absurd hc (by decide))
      refine g_aload_n X 0 dX8_settle_50 rfl ?_
      refine g_iload_n X 1 dX8_settle_51 rfl ?_
      refine g_iload X 3 dX8_settle_52 rfl ?_
      refine g_iconst X dX8_settle_54 ?_
      refine g_cVV X (K := K_X8_goes) [.int (iI v1), .int (iI v4), .int (iI (-1))] [] dX8_settle_55 lv_X8_195 rm_X8_settle_X8_goes ⟨by decide, by decide⟩ adA_id rfl rfl rfl (Nat.le_of_ble_eq_true rfl) rfl h (fun s3 h => ?_)
      refine g_iinc X (x := v3) (lv' := [(3, .int (iI (v3 + 1))), (0, .ref 72), (1, .int (iI v1)), (4, .int (iI v4))]) 2 dX8_settle_58 rfl (by decide) rfl ?_
      refine g_aload_n X 1 dX8_settle_61 rfl ?_
      refine g_iload_n X 2 dX8_settle_62 rfl ?_
      refine g_cVI X (K := K_X8_high) [.int (iI v1)] [] dX8_settle_63 lv_X8_137 rm_X8_settle_X8_high ⟨by decide, by decide⟩ adA_id rfl rfl rfl (Nat.le_of_ble_eq_true rfl) rfl h (fun x5 s4 q6 h => ?_)
      refine g_iconst X dX8_settle_66 ?_
      refine g_isub X dX8_settle_67 ?_
      refine g_istore X (lv' := [(4, .int (iI (x5 - 2))), (3, .int (iI (v3 + 1))), (0, .ref 72), (1, .int (iI v1))]) dX8_settle_68 (by decide) rfl ?_
      refine g_goto X (tgt := 28) dX8_settle_70 (by decide) ?_
      exact g_sub (lv' := [(0, .ref 72), (1, .int (iI v1)), (3, .int (iI (v3 + 1))), (4, .int (iI (x5 - 2)))]) [2, 3, 1, 0] rfl (h p l e s m args below meth c D cA ad X0 hr hlk)
    · skip
      refine g_if_ne X (tgt := 50) dX8_settle_41 (by decide) (by omega) (fun hc => absurd hc (by decide)) (fun _ => ?_)
      refine g_iinc X (x := v4) (lv' := [(4, .int (iI (v4 + (-1)))), (0, .ref 72), (1, .int (iI v1)), (3, .int (iI v3))]) 3 dX8_settle_44 rfl (by decide) rfl ?_
      refine g_goto X (tgt := 28) dX8_settle_47 (by decide) ?_
      exact g_sub (lv' := [(0, .ref 72), (1, .int (iI v1)), (3, .int (iI v3)), (4, .int (iI (v4 + (-1))))]) [1, 2, 3, 0] rfl (h p l e s m args below meth c D cA ad X0 hr hlk)
theorem bX8_shift_0 {v1 : Int} {v2 : Int} {σ : ASt} {Q : Int → ASt → Prop} (h32v2 : i32 v2) (h : EvZ K_X8_isReel [.int (iI v1)] σ (fun s1 => EvZ K_X8_in [.long (lI v2), .long (lI (-9)), .long (lI 9)] s1 (fun s2 => EvZ K_X8_isEmpty [.ref 72, .int (iI v1)] s2 (fun s3 => Q (-11) s3) (fun s3 => EvV K_X8_does [.ref 72, .int (iI v1)] s3 (fun s4 => Wx K_X8_shift (QI Q) 45 [(0, .ref 72), (1, .int (iI v1)), (2, .int (iI v2)), (3, .int (iI 0)), (4, .int (iI 0))] [] s4))) (fun s2 => Q (-2) s2)) (fun s1 => Q (-2) s1)) : Wx K_X8_shift (QI Q) 0 [(0, .ref 72), (1, .int (iI v1)), (2, .int (iI v2))] [] σ := by
  intro p l e s m args below meth c D cA ad X0 hr hlk
  have X : Cx p s m args c (adA ad) D cA ad RX8 cX8_shift 5 := X0
  refine g_iload_n X 1 dX8_shift_0 rfl ?_
  refine g_cSZ X (K := K_X8_isReel) [.int (iI v1)] [] dX8_shift_1 ls_X8_149 rm_X8_shift_X8_isReel ⟨by decide, by decide⟩ adA_id rfl (Nat.le_of_ble_eq_true rfl) rfl h (fun s1 h => ?_) (fun s1 h => ?_)
  · skip
    refine g_if_eq X (tgt := 21) dX8_shift_4 (by decide) (by omega) (fun hc => absurd hc (by decide)) (fun _ => ?_)
    refine g_iload_n X 2 dX8_shift_7 rfl ?_
    refine g_i2l X dX8_shift_8 h32v2 ?_
    refine g_ldc2 X (z := (-9)) dX8_shift_9 lc_X8_199 (by decide +kernel) ?_
    refine g_ldc2 X (z := 9) dX8_shift_12 lc_X8_201 (by decide +kernel) ?_
    refine g_cSZ X (K := K_X8_in) [.long (lI v2), .long (lI (-9)), .long (lI 9)] [] dX8_shift_15 ls_X8_104 rm_X8_shift_X8_in ⟨by decide, by decide⟩ adA_id rfl (Nat.le_of_ble_eq_true rfl) rfl h (fun s2 h => ?_) (fun s2 h => ?_)
    · skip
      refine g_if_ne X (tgt := 24) dX8_shift_18 (by decide) (by omega) (fun _ => ?_) (fun hc => absurd hc (by decide))
      refine g_aload_n X 0 dX8_shift_24 rfl ?_
      refine g_iload_n X 1 dX8_shift_25 rfl ?_
      refine g_cVZ X (K := K_X8_isEmpty) [.int (iI v1)] [] dX8_shift_26 lv_X8_159 rm_X8_shift_X8_isEmpty ⟨by decide, by decide⟩ adA_id rfl rfl rfl (Nat.le_of_ble_eq_true rfl) rfl h (fun s3 h => ?_) (fun s3 h => ?_)
      · skip
        refine g_if_eq X (tgt := 35) dX8_shift_29 (by decide) (by omega) (fun hc => absurd hc (by decide)) (fun _ => ?_)
        refine g_bipush X dX8_shift_32 (by decide +kernel) ?_
        exact g_iret X hr hlk dX8_shift_34 rfl ⟨_, rfl, (by omega), h⟩
      · skip
        refine g_if_eq X (tgt := 35) dX8_shift_29 (by decide) (by omega) (fun _ => ?_) (fun hc => absurd hc (by decide))
        refine g_aload_n X 0 dX8_shift_35 rfl ?_
        refine g_iload_n X 1 dX8_shift_36 rfl ?_
        refine g_cVV X (K := K_X8_does) [.int (iI v1)] [] dX8_shift_37 lv_X8_188 rm_X8_shift_X8_does ⟨by decide, by decide⟩ adA_id rfl rfl rfl (Nat.le_of_ble_eq_true rfl) rfl h (fun s4 h => ?_)
        refine g_iconst X dX8_shift_40 ?_
        refine g_istore_n X (lv' := [(3, .int (iI 0)), (0, .ref 72), (1, .int (iI v1)), (2, .int (iI v2))]) dX8_shift_41 (by decide) rfl ?_
        refine g_iconst X dX8_shift_42 ?_
        refine g_istore X (lv' := [(4, .int (iI 0)), (3, .int (iI 0)), (0, .ref 72), (1, .int (iI v1)), (2, .int (iI v2))]) dX8_shift_43 (by decide) rfl ?_
        exact g_sub (lv' := [(0, .ref 72), (1, .int (iI v1)), (2, .int (iI v2)), (3, .int (iI 0)), (4, .int (iI 0))]) [2, 3, 4, 1, 0] rfl (h p l e s m args below meth c D cA ad X0 hr hlk)
    · skip
      refine g_if_ne X (tgt := 24) dX8_shift_18 (by decide) (by omega) (fun hc => absurd hc (by decide)) (fun _ => ?_)
      refine g_bipush X dX8_shift_21 (by decide +kernel) ?_
      exact g_iret X hr hlk dX8_shift_23 rfl ⟨_, rfl, (by omega), h⟩
  · skip
    refine g_if_eq X (tgt := 21) dX8_shift_4 (by decide) (by omega) (fun _ => ?_) (fun hc => absurd hc (by decide))
    refine g_bipush X dX8_shift_21 (by decide +kernel) ?_
    exact g_iret X hr hlk dX8_shift_23 rfl ⟨_, rfl, (by omega), h⟩
theorem eX8_shift {v1 : Int} {v2 : Int} {σ : ASt} {Q : Int → ASt → Prop} (h32v2 : i32 v2) (h : EvZ K_X8_isReel [.int (iI v1)] σ (fun s1 => EvZ K_X8_in [.long (lI v2), .long (lI (-9)), .long (lI 9)] s1 (fun s2 => EvZ K_X8_isEmpty [.ref 72, .int (iI v1)] s2 (fun s3 => Q (-11) s3) (fun s3 => EvV K_X8_does [.ref 72, .int (iI v1)] s3 (fun s4 => Wx K_X8_shift (QI Q) 45 [(0, .ref 72), (1, .int (iI v1)), (2, .int (iI v2)), (3, .int (iI 0)), (4, .int (iI 0))] [] s4))) (fun s2 => Q (-2) s2)) (fun s1 => Q (-2) s1)) : EvI K_X8_shift [.ref 72, .int (iI v1), .int (iI v2)] σ Q := Ev.of rfl (Nat.le_of_ble_eq_true rfl) rfl (bX8_shift_0 h32v2 h)
theorem bX8_shift_45 {v1 : Int} {v2 : Int} {v3 : Int} {v4 : Int} {σ : ASt} {Q : Int → ASt → Prop} (h32v3 : i32 v3) (h32v4 : i32 v4) (h : EvI K_X8_high [.ref 72, .int (iI v1)] σ (fun x2 s1 => ((x2 ≤ v4 → EvI K_X8_takes [.ref 72, .int (iI v1)] s1 (fun x6 s5 => Q v3 s5)) ∧ (v4 < x2 → EvI K_X8_digitAt [.ref 72, .int (iI v1), .int (iI v4)] s1 (fun x9 s8 => ((x9 ≤ 0 → i32 ((v4 - v2)) ∧ EvI K_X8_high [.ref 72, .int (iI v1)] s8 (fun x14 s13 => i32 ((x14 - 1)) ∧ EvZ K_X8_in [.long (lI (v4 - v2)), .long (lI 0), .long (lI (x14 - 1))] s13 (fun s17 => EvI K_X8_digitAt [.ref 72, .int (iI v1), .int (iI (v4 - v2))] s17 (fun x19 s18 => ((0 : Int) ≤ v4 ∧ v4 < 50) ∧ Wx K_X8_shift (QI Q) 45 [(0, .ref 72), (1, .int (iI v1)), (2, .int (iI v2)), (3, .int (iI (v3 + 0))), (4, .int (iI (v4 + 1)))] [] (sI s18 80 v4 x19))) (fun s17 => ((0 : Int) ≤ v4 ∧ v4 < 50) ∧ Wx K_X8_shift (QI Q) 45 [(0, .ref 72), (1, .int (iI v1)), (2, .int (iI v2)), (3, .int (iI (v3 + 0))), (4, .int (iI (v4 + 1)))] [] (sI s17 80 v4 0)))) ∧ (0 < x9 → i32 ((v4 + v2)) ∧ EvI K_X8_high [.ref 72, .int (iI v1)] s8 (fun x25 s24 => i32 ((x25 - 1)) ∧ EvZ K_X8_in [.long (lI (v4 + v2)), .long (lI 0), .long (lI (x25 - 1))] s24 (fun s28 => i32 ((v4 - v2)) ∧ EvI K_X8_high [.ref 72, .int (iI v1)] s28 (fun x31 s30 => i32 ((x31 - 1)) ∧ EvZ K_X8_in [.long (lI (v4 - v2)), .long (lI 0), .long (lI (x31 - 1))] s30 (fun s34 => EvI K_X8_digitAt [.ref 72, .int (iI v1), .int (iI (v4 - v2))] s34 (fun x36 s35 => ((0 : Int) ≤ v4 ∧ v4 < 50) ∧ Wx K_X8_shift (QI Q) 45 [(0, .ref 72), (1, .int (iI v1)), (2, .int (iI v2)), (3, .int (iI (v3 + 0))), (4, .int (iI (v4 + 1)))] [] (sI s35 80 v4 x36))) (fun s34 => ((0 : Int) ≤ v4 ∧ v4 < 50) ∧ Wx K_X8_shift (QI Q) 45 [(0, .ref 72), (1, .int (iI v1)), (2, .int (iI v2)), (3, .int (iI (v3 + 0))), (4, .int (iI (v4 + 1)))] [] (sI s34 80 v4 0)))) (fun s28 => i32 ((v4 - v2)) ∧ EvI K_X8_high [.ref 72, .int (iI v1)] s28 (fun x42 s41 => i32 ((x42 - 1)) ∧ EvZ K_X8_in [.long (lI (v4 - v2)), .long (lI 0), .long (lI (x42 - 1))] s41 (fun s45 => EvI K_X8_digitAt [.ref 72, .int (iI v1), .int (iI (v4 - v2))] s45 (fun x47 s46 => ((0 : Int) ≤ v4 ∧ v4 < 50) ∧ Wx K_X8_shift (QI Q) 45 [(0, .ref 72), (1, .int (iI v1)), (2, .int (iI v2)), (3, .int (iI (v3 + 1))), (4, .int (iI (v4 + 1)))] [] (sI s46 80 v4 x47))) (fun s45 => ((0 : Int) ≤ v4 ∧ v4 < 50) ∧ Wx K_X8_shift (QI Q) 45 [(0, .ref 72), (1, .int (iI v1)), (2, .int (iI v2)), (3, .int (iI (v3 + 1))), (4, .int (iI (v4 + 1)))] [] (sI s45 80 v4 0)))))))))))) : Wx K_X8_shift (QI Q) 45 [(0, .ref 72), (1, .int (iI v1)), (2, .int (iI v2)), (3, .int (iI v3)), (4, .int (iI v4))] [] σ := by
  intro p l e s m args below meth c D cA ad X0 hr hlk
  have X : Cx p s m args c (adA ad) D cA ad RX8 cX8_shift 5 := X0
  refine g_iload X 4 dX8_shift_45 rfl ?_
  refine g_aload_n X 0 dX8_shift_47 rfl ?_
  refine g_iload_n X 1 dX8_shift_48 rfl ?_
  refine g_cVI X (K := K_X8_high) [.int (iI v1)] [.int (iI v4)] dX8_shift_49 lv_X8_137 rm_X8_shift_X8_high ⟨by decide, by decide⟩ adA_id rfl rfl rfl (Nat.le_of_ble_eq_true rfl) rfl h (fun x2 s1 q3 h => ?_)
  refine g_icmp_ge X (tgt := 139) dX8_shift_52 (by decide) h32v4 q3 (fun c4 => ?_) (fun c4 => ?_)
  · have h := h.1 c4
    refine g_aload_n X 0 dX8_shift_139 rfl ?_
    refine g_iload_n X 1 dX8_shift_140 rfl ?_
    refine g_cVI X (K := K_X8_takes) [.int (iI v1)] [] dX8_shift_141 lv_X8_143 rm_X8_shift_X8_takes ⟨by decide, by decide⟩ adA_id rfl rfl rfl (Nat.le_of_ble_eq_true rfl) rfl h (fun x6 s5 q7 h => ?_)
    refine g_istore X (lv' := [(4, .int (iI x6)), (0, .ref 72), (1, .int (iI v1)), (2, .int (iI v2)), (3, .int (iI v3))]) dX8_shift_144 (by decide) rfl ?_
    refine g_iload_n X 4 dX8_shift_146 rfl ?_
    exact g_iret X hr hlk dX8_shift_147 rfl ⟨_, rfl, h32v3, h⟩
  · have h := h.2 c4
    refine g_iload_n X 3 dX8_shift_55 rfl ?_
    refine g_aload_n X 0 dX8_shift_56 rfl ?_
    refine g_iload_n X 1 dX8_shift_57 rfl ?_
    refine g_iload X 4 dX8_shift_58 rfl ?_
    refine g_cVI X (K := K_X8_digitAt) [.int (iI v1), .int (iI v4)] [.int (iI v3)] dX8_shift_60 lv_X8_140 rm_X8_shift_X8_digitAt ⟨by decide, by decide⟩ adA_id rfl rfl rfl (Nat.le_of_ble_eq_true rfl) rfl h (fun x9 s8 q10 h => ?_)
    refine g_if_le X (tgt := 90) dX8_shift_63 (by decide) q10 (fun c11 => ?_) (fun c11 => ?_)
    · have h := h.1 c11
      refine g_iconst X dX8_shift_90 ?_
      refine g_iadd X dX8_shift_91 ?_
      refine g_istore_n X (lv' := [(3, .int (iI (v3 + 0))), (0, .ref 72), (1, .int (iI v1)), (2, .int (iI v2)), (4, .int (iI v4))]) dX8_shift_92 (by decide) rfl ?_
      refine g_aload_n X 1 dX8_shift_93 rfl ?_
      refine g_getF X (f := 80) dX8_shift_94 lf_X8_34 rfl rfl rfl ?_
      refine g_iload X 4 dX8_shift_97 rfl ?_
      refine g_iload X 4 dX8_shift_99 rfl ?_
      refine g_iload_n X 3 dX8_shift_101 rfl ?_
      refine g_isub X dX8_shift_102 ?_
      obtain ⟨q12, h⟩ := h
      refine g_i2l X dX8_shift_103 q12 ?_
      refine g_lconst X (z := 0) dX8_shift_104 (by decide +kernel) ?_
      refine g_aload_n X 1 dX8_shift_105 rfl ?_
      refine g_iload_n X 2 dX8_shift_106 rfl ?_
      refine g_cVI X (K := K_X8_high) [.int (iI v1)] [.long (lI 0), .long (lI (v4 - v2)), .int (iI v4), .ref 80] dX8_shift_107 lv_X8_137 rm_X8_shift_X8_high ⟨by decide, by decide⟩ adA_id rfl rfl rfl (Nat.le_of_ble_eq_true rfl) rfl h (fun x14 s13 q15 h => ?_)
      refine g_iconst X dX8_shift_110 ?_
      refine g_isub X dX8_shift_111 ?_
      obtain ⟨q16, h⟩ := h
      refine g_i2l X dX8_shift_112 q16 ?_
      refine g_cSZ X (K := K_X8_in) [.long (lI (v4 - v2)), .long (lI 0), .long (lI (x14 - 1))] [.int (iI v4), .ref 80] dX8_shift_113 ls_X8_104 rm_X8_shift_X8_in ⟨by decide, by decide⟩ adA_id rfl (Nat.le_of_ble_eq_true rfl) rfl h (fun s17 h => ?_) (fun s17 h => ?_)
      · skip
        refine g_if_eq X (tgt := 131) dX8_shift_116 (by decide) (by omega) (fun hc => absurd hc (by decide)) (fun _ => ?_)
        refine g_aload_n X 1 dX8_shift_119 rfl ?_
        refine g_iload_n X 2 dX8_shift_120 rfl ?_
        refine g_iload X 4 dX8_shift_121 rfl ?_
        refine g_iload_n X 3 dX8_shift_123 rfl ?_
        refine g_isub X dX8_shift_124 ?_
        refine g_cVI X (K := K_X8_digitAt) [.int (iI v1), .int (iI (v4 - v2))] [.int (iI v4), .ref 80] dX8_shift_125 lv_X8_140 rm_X8_shift_X8_digitAt ⟨by decide, by decide⟩ adA_id rfl rfl rfl (Nat.le_of_ble_eq_true rfl) rfl h (fun x19 s18 q20 h => ?_)
        refine g_goto X (tgt := 132) dX8_shift_128 (by decide) ?_
        obtain ⟨q21, h⟩ := h
        refine g_iast X dX8_shift_132 rfl q21.1 q21.2 ?_
        refine g_iinc X (x := v4) (lv' := [(4, .int (iI (v4 + 1))), (3, .int (iI (v3 + 0))), (0, .ref 72), (1, .int (iI v1)), (2, .int (iI v2))]) 4 dX8_shift_133 rfl (by decide) rfl ?_
        refine g_goto X (tgt := 45) dX8_shift_136 (by decide) ?_
        exact g_sub (lv' := [(0, .ref 72), (1, .int (iI v1)), (2, .int (iI v2)), (3, .int (iI (v3 + 0))), (4, .int (iI (v4 + 1)))]) [2, 3, 4, 1, 0] rfl (h p l e s m args below meth c D cA ad X0 hr hlk)
      · skip
        refine g_if_eq X (tgt := 131) dX8_shift_116 (by decide) (by omega) (fun _ => ?_) (fun hc => absurd hc (by decide))
        refine g_iconst X dX8_shift_131 ?_
        obtain ⟨q22, h⟩ := h
        refine g_iast X dX8_shift_132 rfl q22.1 q22.2 ?_
        refine g_iinc X (x := v4) (lv' := [(4, .int (iI (v4 + 1))), (3, .int (iI (v3 + 0))), (0, .ref 72), (1, .int (iI v1)), (2, .int (iI v2))]) 4 dX8_shift_133 rfl (by decide) rfl ?_
        refine g_goto X (tgt := 45) dX8_shift_136 (by decide) ?_
        exact g_sub (lv' := [(0, .ref 72), (1, .int (iI v1)), (2, .int (iI v2)), (3, .int (iI (v3 + 0))), (4, .int (iI (v4 + 1)))]) [2, 3, 4, 1, 0] rfl (h p l e s m args below meth c D cA ad X0 hr hlk)
    · have h := h.2 c11
      refine g_iload X 4 dX8_shift_66 rfl ?_
      refine g_iload_n X 2 dX8_shift_68 rfl ?_
      refine g_iadd X dX8_shift_69 ?_
      obtain ⟨q23, h⟩ := h
      refine g_i2l X dX8_shift_70 q23 ?_
      refine g_lconst X (z := 0) dX8_shift_71 (by decide +kernel) ?_
      refine g_aload_n X 0 dX8_shift_72 rfl ?_
      refine g_iload_n X 1 dX8_shift_73 rfl ?_
      refine g_cVI X (K := K_X8_high) [.int (iI v1)] [.long (lI 0), .long (lI (v4 + v2)), .int (iI v3)] dX8_shift_74 lv_X8_137 rm_X8_shift_X8_high ⟨by decide, by decide⟩ adA_id rfl rfl rfl (Nat.le_of_ble_eq_true rfl) rfl h (fun x25 s24 q26 h => ?_)
      refine g_iconst X dX8_shift_77 ?_
      refine g_isub X dX8_shift_78 ?_
      obtain ⟨q27, h⟩ := h
      refine g_i2l X dX8_shift_79 q27 ?_
      refine g_cSZ X (K := K_X8_in) [.long (lI (v4 + v2)), .long (lI 0), .long (lI (x25 - 1))] [.int (iI v3)] dX8_shift_80 ls_X8_104 rm_X8_shift_X8_in ⟨by decide, by decide⟩ adA_id rfl (Nat.le_of_ble_eq_true rfl) rfl h (fun s28 h => ?_) (fun s28 h => ?_)
      · skip
        refine g_if_ne X (tgt := 90) dX8_shift_83 (by decide) (by omega) (fun _ => ?_) (fun hc => absurd hc (by decide))
        refine g_iconst X dX8_shift_90 ?_
        refine g_iadd X dX8_shift_91 ?_
        refine g_istore_n X (lv' := [(3, .int (iI (v3 + 0))), (0, .ref 72), (1, .int (iI v1)), (2, .int (iI v2)), (4, .int (iI v4))]) dX8_shift_92 (by decide) rfl ?_
        refine g_aload_n X 1 dX8_shift_93 rfl ?_
        refine g_getF X (f := 80) dX8_shift_94 lf_X8_34 rfl rfl rfl ?_
        refine g_iload X 4 dX8_shift_97 rfl ?_
        refine g_iload X 4 dX8_shift_99 rfl ?_
        refine g_iload_n X 3 dX8_shift_101 rfl ?_
        refine g_isub X dX8_shift_102 ?_
        obtain ⟨q29, h⟩ := h
        refine g_i2l X dX8_shift_103 q29 ?_
        refine g_lconst X (z := 0) dX8_shift_104 (by decide +kernel) ?_
        refine g_aload_n X 1 dX8_shift_105 rfl ?_
        refine g_iload_n X 2 dX8_shift_106 rfl ?_
        refine g_cVI X (K := K_X8_high) [.int (iI v1)] [.long (lI 0), .long (lI (v4 - v2)), .int (iI v4), .ref 80] dX8_shift_107 lv_X8_137 rm_X8_shift_X8_high ⟨by decide, by decide⟩ adA_id rfl rfl rfl (Nat.le_of_ble_eq_true rfl) rfl h (fun x31 s30 q32 h => ?_)
        refine g_iconst X dX8_shift_110 ?_
        refine g_isub X dX8_shift_111 ?_
        obtain ⟨q33, h⟩ := h
        refine g_i2l X dX8_shift_112 q33 ?_
        refine g_cSZ X (K := K_X8_in) [.long (lI (v4 - v2)), .long (lI 0), .long (lI (x31 - 1))] [.int (iI v4), .ref 80] dX8_shift_113 ls_X8_104 rm_X8_shift_X8_in ⟨by decide, by decide⟩ adA_id rfl (Nat.le_of_ble_eq_true rfl) rfl h (fun s34 h => ?_) (fun s34 h => ?_)
        · skip
          refine g_if_eq X (tgt := 131) dX8_shift_116 (by decide) (by omega) (fun hc => absurd hc (by decide)) (fun _ => ?_)
          refine g_aload_n X 1 dX8_shift_119 rfl ?_
          refine g_iload_n X 2 dX8_shift_120 rfl ?_
          refine g_iload X 4 dX8_shift_121 rfl ?_
          refine g_iload_n X 3 dX8_shift_123 rfl ?_
          refine g_isub X dX8_shift_124 ?_
          refine g_cVI X (K := K_X8_digitAt) [.int (iI v1), .int (iI (v4 - v2))] [.int (iI v4), .ref 80] dX8_shift_125 lv_X8_140 rm_X8_shift_X8_digitAt ⟨by decide, by decide⟩ adA_id rfl rfl rfl (Nat.le_of_ble_eq_true rfl) rfl h (fun x36 s35 q37 h => ?_)
          refine g_goto X (tgt := 132) dX8_shift_128 (by decide) ?_
          obtain ⟨q38, h⟩ := h
          refine g_iast X dX8_shift_132 rfl q38.1 q38.2 ?_
          refine g_iinc X (x := v4) (lv' := [(4, .int (iI (v4 + 1))), (3, .int (iI (v3 + 0))), (0, .ref 72), (1, .int (iI v1)), (2, .int (iI v2))]) 4 dX8_shift_133 rfl (by decide) rfl ?_
          refine g_goto X (tgt := 45) dX8_shift_136 (by decide) ?_
          exact g_sub (lv' := [(0, .ref 72), (1, .int (iI v1)), (2, .int (iI v2)), (3, .int (iI (v3 + 0))), (4, .int (iI (v4 + 1)))]) [2, 3, 4, 1, 0] rfl (h p l e s m args below meth c D cA ad X0 hr hlk)
        · skip
          refine g_if_eq X (tgt := 131) dX8_shift_116 (by decide) (by omega) (fun _ => ?_) (fun hc => absurd hc (by decide))
          refine g_iconst X dX8_shift_131 ?_
          obtain ⟨q39, h⟩ := h
          refine g_iast X dX8_shift_132 rfl q39.1 q39.2 ?_
          refine g_iinc X (x := v4) (lv' := [(4, .int (iI (v4 + 1))), (3, .int (iI (v3 + 0))), (0, .ref 72), (1, .int (iI v1)), (2, .int (iI v2))]) 4 dX8_shift_133 rfl (by decide) rfl ?_
          refine g_goto X (tgt := 45) dX8_shift_136 (by decide) ?_
          exact g_sub (lv' := [(0, .ref 72), (1, .int (iI v1)), (2, .int (iI v2)), (3, .int (iI (v3 + 0))), (4, .int (iI (v4 + 1)))]) [2, 3, 4, 1, 0] rfl (h p l e s m args below meth c D cA ad X0 hr hlk)
      · skip
        refine g_if_ne X (tgt := 90) dX8_shift_83 (by decide) (by omega) (fun hc => absurd hc (by decide)) (fun _ => ?_)
        refine g_iconst X dX8_shift_86 ?_
        refine g_goto X (tgt := 91) dX8_shift_87 (by decide) ?_
        refine g_iadd X dX8_shift_91 ?_
        refine g_istore_n X (lv' := [(3, .int (iI (v3 + 1))), (0, .ref 72), (1, .int (iI v1)), (2, .int (iI v2)), (4, .int (iI v4))]) dX8_shift_92 (by decide) rfl ?_
        refine g_aload_n X 1 dX8_shift_93 rfl ?_
        refine g_getF X (f := 80) dX8_shift_94 lf_X8_34 rfl rfl rfl ?_
        refine g_iload X 4 dX8_shift_97 rfl ?_
        refine g_iload X 4 dX8_shift_99 rfl ?_
        refine g_iload_n X 3 dX8_shift_101 rfl ?_
        refine g_isub X dX8_shift_102 ?_
        obtain ⟨q40, h⟩ := h
        refine g_i2l X dX8_shift_103 q40 ?_
        refine g_lconst X (z := 0) dX8_shift_104 (by decide +kernel) ?_
        refine g_aload_n X 1 dX8_shift_105 rfl ?_
        refine g_iload_n X 2 dX8_shift_106 rfl ?_
        refine g_cVI X (K := K_X8_high) [.int (iI v1)] [.long (lI 0), .long (lI (v4 - v2)), .int (iI v4), .ref 80] dX8_shift_107 lv_X8_137 rm_X8_shift_X8_high ⟨by decide, by decide⟩ adA_id rfl rfl rfl (Nat.le_of_ble_eq_true rfl) rfl h (fun x42 s41 q43 h => ?_)
        refine g_iconst X dX8_shift_110 ?_
        refine g_isub X dX8_shift_111 ?_
        obtain ⟨q44, h⟩ := h
        refine g_i2l X dX8_shift_112 q44 ?_
        refine g_cSZ X (K := K_X8_in) [.long (lI (v4 - v2)), .long (lI 0), .long (lI (x42 - 1))] [.int (iI v4), .ref 80] dX8_shift_113 ls_X8_104 rm_X8_shift_X8_in ⟨by decide, by decide⟩ adA_id rfl (Nat.le_of_ble_eq_true rfl) rfl h (fun s45 h => ?_) (fun s45 h => ?_)
        · skip
          refine g_if_eq X (tgt := 131) dX8_shift_116 (by decide) (by omega) (fun hc => absurd hc (by decide)) (fun _ => ?_)
          refine g_aload_n X 1 dX8_shift_119 rfl ?_
          refine g_iload_n X 2 dX8_shift_120 rfl ?_
          refine g_iload X 4 dX8_shift_121 rfl ?_
          refine g_iload_n X 3 dX8_shift_123 rfl ?_
          refine g_isub X dX8_shift_124 ?_
          refine g_cVI X (K := K_X8_digitAt) [.int (iI v1), .int (iI (v4 - v2))] [.int (iI v4), .ref 80] dX8_shift_125 lv_X8_140 rm_X8_shift_X8_digitAt ⟨by decide, by decide⟩ adA_id rfl rfl rfl (Nat.le_of_ble_eq_true rfl) rfl h (fun x47 s46 q48 h => ?_)
          refine g_goto X (tgt := 132) dX8_shift_128 (by decide) ?_
          obtain ⟨q49, h⟩ := h
          refine g_iast X dX8_shift_132 rfl q49.1 q49.2 ?_
          refine g_iinc X (x := v4) (lv' := [(4, .int (iI (v4 + 1))), (3, .int (iI (v3 + 1))), (0, .ref 72), (1, .int (iI v1)), (2, .int (iI v2))]) 4 dX8_shift_133 rfl (by decide) rfl ?_
          refine g_goto X (tgt := 45) dX8_shift_136 (by decide) ?_
          exact g_sub (lv' := [(0, .ref 72), (1, .int (iI v1)), (2, .int (iI v2)), (3, .int (iI (v3 + 1))), (4, .int (iI (v4 + 1)))]) [2, 3, 4, 1, 0] rfl (h p l e s m args below meth c D cA ad X0 hr hlk)
        · skip
          refine g_if_eq X (tgt := 131) dX8_shift_116 (by decide) (by omega) (fun _ => ?_) (fun hc => absurd hc (by decide))
          refine g_iconst X dX8_shift_131 ?_
          obtain ⟨q50, h⟩ := h
          refine g_iast X dX8_shift_132 rfl q50.1 q50.2 ?_
          refine g_iinc X (x := v4) (lv' := [(4, .int (iI (v4 + 1))), (3, .int (iI (v3 + 1))), (0, .ref 72), (1, .int (iI v1)), (2, .int (iI v2))]) 4 dX8_shift_133 rfl (by decide) rfl ?_
          refine g_goto X (tgt := 45) dX8_shift_136 (by decide) ?_
          exact g_sub (lv' := [(0, .ref 72), (1, .int (iI v1)), (2, .int (iI v2)), (3, .int (iI (v3 + 1))), (4, .int (iI (v4 + 1)))]) [2, 3, 4, 1, 0] rfl (h p l e s m args below meth c D cA ad X0 hr hlk)
theorem bX8_soon_0 {v1 : Int} {v2 : Int} {σ : ASt} {Q : Int → ASt → Prop}  (h : EvI K_X8_refusal_ [.ref 72, .int (iI v1), .int (iI v2), .int (iI 1)] σ (fun x2 s1 => ((x2 = 0 → EvZ K_X8_isLegal [.ref 72, .int (iI v1)] s1 (fun s5 => EvL K_X8_valueOf [.ref 72, .int (iI v1)] s5 (fun x7 s6 => Wx K_X8_soon (QI Q) 35 [(0, .ref 72), (1, .int (iI v1)), (2, .int (iI v2)), (4, .long (lI x7)), (6, .int (iI 1))] [] s6)) (fun s5 => Q (-3) s5)) ∧ (x2 ≠ 0 → Q x2 s1)))) : Wx K_X8_soon (QI Q) 0 [(0, .ref 72), (1, .int (iI v1)), (2, .int (iI v2))] [] σ := by
  intro p l e s m args below meth c D cA ad X0 hr hlk
  have X : Cx p s m args c (adA ad) D cA ad RX8 cX8_soon 7 := X0
  refine g_aload_n X 0 dX8_soon_0 rfl ?_
  refine g_iload_n X 1 dX8_soon_1 rfl ?_
  refine g_iload_n X 2 dX8_soon_2 rfl ?_
  refine g_iconst X dX8_soon_3 ?_
  refine g_cVI X (K := K_X8_refusal_) [.int (iI v1), .int (iI v2), .int (iI 1)] [] dX8_soon_4 lv_X8_171 rm_X8_soon_X8_refusal_ ⟨by decide, by decide⟩ adA_id rfl rfl rfl (Nat.le_of_ble_eq_true rfl) rfl h (fun x2 s1 q3 h => ?_)
  refine g_istore_n X (lv' := [(3, .int (iI x2)), (0, .ref 72), (1, .int (iI v1)), (2, .int (iI v2))]) dX8_soon_7 (by decide) rfl ?_
  refine g_iload_n X 0 dX8_soon_8 rfl ?_
  refine g_if_eq X (tgt := 14) dX8_soon_9 (by decide) q3 (fun c4 => ?_) (fun c4 => ?_)
  · have h := h.1 c4
    refine g_aload_n X 1 dX8_soon_14 rfl ?_
    refine g_iload_n X 2 dX8_soon_15 rfl ?_
    refine g_cVZ X (K := K_X8_isLegal) [.int (iI v1)] [] dX8_soon_16 lv_X8_165 rm_X8_soon_X8_isLegal ⟨by decide, by decide⟩ adA_id rfl rfl rfl (Nat.le_of_ble_eq_true rfl) rfl h (fun s5 h => ?_) (fun s5 h => ?_)
    · skip
      refine g_if_ne X (tgt := 25) dX8_soon_19 (by decide) (by omega) (fun _ => ?_) (fun hc => absurd hc (by decide))
      refine g_aload_n X 1 dX8_soon_25 rfl ?_
      refine g_iload_n X 2 dX8_soon_26 rfl ?_
      refine g_cVL X (K := K_X8_valueOf) [.int (iI v1)] [] dX8_soon_27 lv_X8_174 rm_X8_soon_X8_valueOf ⟨by decide, by decide⟩ adA_id rfl rfl rfl (Nat.le_of_ble_eq_true rfl) rfl h (fun x7 s6 q8 h => ?_)
      refine g_lstore X (lv' := [(4, .long (lI x7)), (3, .int (iI x2)), (0, .ref 72), (1, .int (iI v1)), (2, .int (iI v2))]) dX8_soon_30 (by decide) rfl ?_
      refine g_iconst X dX8_soon_32 ?_
      refine g_istore X (lv' := [(6, .int (iI 1)), (4, .long (lI x7)), (3, .int (iI x2)), (0, .ref 72), (1, .int (iI v1)), (2, .int (iI v2))]) dX8_soon_33 (by decide) rfl ?_
      exact g_sub (lv' := [(0, .ref 72), (1, .int (iI v1)), (2, .int (iI v2)), (4, .long (lI x7)), (6, .int (iI 1))]) [3, 4, 5, 1, 0] rfl (h p l e s m args below meth c D cA ad X0 hr hlk)
    · skip
      refine g_if_ne X (tgt := 25) dX8_soon_19 (by decide) (by omega) (fun hc => absurd hc (by decide)) (fun _ => ?_)
      refine g_bipush X dX8_soon_22 (by decide +kernel) ?_
      exact g_iret X hr hlk dX8_soon_24 rfl ⟨_, rfl, (by omega), h⟩
  · have h := h.2 c4
    refine g_iload_n X 0 dX8_soon_12 rfl ?_
    exact g_iret X hr hlk dX8_soon_13 rfl ⟨_, rfl, q3, h⟩
theorem eX8_soon {v1 : Int} {v2 : Int} {σ : ASt} {Q : Int → ASt → Prop}  (h : EvI K_X8_refusal_ [.ref 72, .int (iI v1), .int (iI v2), .int (iI 1)] σ (fun x2 s1 => ((x2 = 0 → EvZ K_X8_isLegal [.ref 72, .int (iI v1)] s1 (fun s5 => EvL K_X8_valueOf [.ref 72, .int (iI v1)] s5 (fun x7 s6 => Wx K_X8_soon (QI Q) 35 [(0, .ref 72), (1, .int (iI v1)), (2, .int (iI v2)), (4, .long (lI x7)), (6, .int (iI 1))] [] s6)) (fun s5 => Q (-3) s5)) ∧ (x2 ≠ 0 → Q x2 s1)))) : EvI K_X8_soon [.ref 72, .int (iI v1), .int (iI v2)] σ Q := Ev.of rfl (Nat.le_of_ble_eq_true rfl) rfl (bX8_soon_0  h)
theorem bX8_soon_35 {v1 : Int} {v2 : Int} {v4 : Int} {v6 : Int} {σ : ASt} {Q : Int → ASt → Prop} (h32v6 : i32 v6) (h : ((1000 < v6 → Q (-1) σ) ∧ (v6 ≤ 1000 → ((0 : Int) ≤ v1 ∧ v1 < 6) ∧ ((0 : Int) ≤ (gI σ 78 v1) ∧ (gI σ 78 v1) < 3) ∧ i64 ((v4 + v6)) ∧ i64 ((gL σ 77 (gI σ 78 v1))) ∧ (((gL σ 77 (gI σ 78 v1)) < (v4 + v6) → Q (-1) σ) ∧ ((v4 + v6) ≤ (gL σ 77 (gI σ 78 v1)) → EvV K_X8_makes [.ref 72, .int (iI (gI σ 78 v1)), .long (lI (v4 + v6))] σ (fun s7 => ((0 : Int) ≤ v2 ∧ v2 < 50) ∧ EvI K_X8_digitAt [.ref 72, .int (iI v1), .int (iI v2)] s7 (fun x10 s9 => i32 ((gI s7 80 v2)) ∧ (((gI s7 80 v2) = x10 → Wx K_X8_soon (QI Q) 35 [(0, .ref 72), (1, .int (iI v1)), (2, .int (iI v2)), (4, .long (lI v4)), (6, .int (iI (v6 + 1)))] [] s9) ∧ ((gI s7 80 v2) ≠ x10 → Q v6 s9))))))))) : Wx K_X8_soon (QI Q) 35 [(0, .ref 72), (1, .int (iI v1)), (2, .int (iI v2)), (4, .long (lI v4)), (6, .int (iI v6))] [] σ := by
  intro p l e s m args below meth c D cA ad X0 hr hlk
  have X : Cx p s m args c (adA ad) D cA ad RX8 cX8_soon 7 := X0
  refine g_iload X 4 dX8_soon_35 rfl ?_
  refine g_sipush X dX8_soon_37 (by decide +kernel) ?_
  refine g_icmp_gt X (tgt := 104) dX8_soon_40 (by decide) h32v6 (by omega) (fun c1 => ?_) (fun c1 => ?_)
  · have h := h.1 c1
    refine g_iconst X dX8_soon_104 ?_
    exact g_iret X hr hlk dX8_soon_105 rfl ⟨_, rfl, (by omega), h⟩
  · have h := h.2 c1
    refine g_lload X 3 dX8_soon_43 rfl ?_
    refine g_iload X 4 dX8_soon_45 rfl ?_
    refine g_i2l X dX8_soon_47 h32v6 ?_
    refine g_ladd X dX8_soon_48 ?_
    refine g_aload_n X 0 dX8_soon_49 rfl ?_
    refine g_getF X (f := 77) dX8_soon_50 lf_X8_25 rfl rfl rfl ?_
    refine g_aload_n X 0 dX8_soon_53 rfl ?_
    refine g_getF X (f := 78) dX8_soon_54 lf_X8_28 rfl rfl rfl ?_
    refine g_iload_n X 1 dX8_soon_57 rfl ?_
    obtain ⟨q2, h⟩ := h
    refine g_iald X dX8_soon_58 rfl q2.1 q2.2 ?_
    obtain ⟨q3, h⟩ := h
    refine g_lald X dX8_soon_59 rfl q3.1 q3.2 ?_
    obtain ⟨q4, h⟩ := h
    obtain ⟨q5, h⟩ := h
    refine g_lc_gt X (tgt := 104) dX8_soon_60 dX8_soon_61 (by decide) q4 q5 (fun c6 => ?_) (fun c6 => ?_)
    · have h := h.1 c6
      refine g_iconst X dX8_soon_104 ?_
      exact g_iret X hr hlk dX8_soon_105 rfl ⟨_, rfl, (by omega), h⟩
    · have h := h.2 c6
      refine g_aload_n X 0 dX8_soon_64 rfl ?_
      refine g_aload_n X 0 dX8_soon_65 rfl ?_
      refine g_getF X (f := 78) dX8_soon_66 lf_X8_28 rfl rfl rfl ?_
      refine g_iload_n X 1 dX8_soon_69 rfl ?_
      refine g_iald X dX8_soon_70 rfl q2.1 q2.2 ?_
      refine g_lload X 3 dX8_soon_71 rfl ?_
      refine g_iload X 4 dX8_soon_73 rfl ?_
      refine g_i2l X dX8_soon_75 h32v6 ?_
      refine g_ladd X dX8_soon_76 ?_
      refine g_cVV X (K := K_X8_makes) [.int (iI (gI σ 78 v1)), .long (lI (v4 + v6))] [] dX8_soon_77 lv_X8_152 rm_X8_soon_X8_makes ⟨by decide, by decide⟩ adA_id rfl rfl rfl (Nat.le_of_ble_eq_true rfl) rfl h (fun s7 h => ?_)
      refine g_aload_n X 0 dX8_soon_80 rfl ?_
      refine g_getF X (f := 80) dX8_soon_81 lf_X8_34 rfl rfl rfl ?_
      refine g_iload_n X 2 dX8_soon_84 rfl ?_
      obtain ⟨q8, h⟩ := h
      refine g_iald X dX8_soon_85 rfl q8.1 q8.2 ?_
      refine g_aload_n X 0 dX8_soon_86 rfl ?_
      refine g_iload_n X 1 dX8_soon_87 rfl ?_
      refine g_iload_n X 2 dX8_soon_88 rfl ?_
      refine g_cVI X (K := K_X8_digitAt) [.int (iI v1), .int (iI v2)] [.int (iI (gI s7 80 v2))] dX8_soon_89 lv_X8_140 rm_X8_soon_X8_digitAt ⟨by decide, by decide⟩ adA_id rfl rfl rfl (Nat.le_of_ble_eq_true rfl) rfl h (fun x10 s9 q11 h => ?_)
      obtain ⟨q12, h⟩ := h
      refine g_icmp_eq X (tgt := 98) dX8_soon_92 (by decide) q12 q11 (fun c13 => ?_) (fun c13 => ?_)
      · have h := h.1 c13
        refine g_iinc X (x := v6) (lv' := [(6, .int (iI (v6 + 1))), (0, .ref 72), (1, .int (iI v1)), (2, .int (iI v2)), (4, .long (lI v4))]) 4 dX8_soon_98 rfl (by decide) rfl ?_
        refine g_goto X (tgt := 35) dX8_soon_101 (by decide) ?_
        exact g_sub (lv' := [(0, .ref 72), (1, .int (iI v1)), (2, .int (iI v2)), (4, .long (lI v4)), (6, .int (iI (v6 + 1)))]) [1, 2, 3, 4, 0] rfl (h p l e s m args below meth c D cA ad X0 hr hlk)
      · have h := h.2 c13
        refine g_iload X 4 dX8_soon_95 rfl ?_
        exact g_iret X hr hlk dX8_soon_97 rfl ⟨_, rfl, h32v6, h⟩
theorem bX8_sum_0 {v1 : Int} {v2 : Int} {v3 : Int} {v4 : Int} {σ : ASt} {Q : Int → ASt → Prop} (h32v4 : i32 v4) (h : EvZ K_X8_isReel [.int (iI v1)] σ (fun s1 => EvZ K_X8_isReel [.int (iI v2)] s1 (fun s2 => EvZ K_X8_isReel [.int (iI v3)] s2 (fun s3 => EvZ K_X8_in [.long (lI v4), .long (lI 0), .long (lI 4)] s3 (fun s4 => EvZ K_X8_isEmpty [.ref 72, .int (iI v1)] s4 (fun s5 => Q (-11) s5) (fun s5 => EvZ K_X8_isEmpty [.ref 72, .int (iI v2)] s5 (fun s6 => Q (-11) s6) (fun s6 => ((0 : Int) ≤ v1 ∧ v1 < 6) ∧ ((0 : Int) ≤ v2 ∧ v2 < 6) ∧ i32 ((gI s6 78 v1)) ∧ i32 ((gI s6 78 v2)) ∧ (((gI s6 78 v1) = (gI s6 78 v2) → ((v4 ≤ 0 → Wx K_X8_sum (QI Q) 149 [(0, .ref 72), (1, .int (iI v1)), (2, .int (iI v2)), (3, .int (iI v3)), (5, .int (iI (gI s6 78 v1))), (6, .int (iI 0))] [] s6) ∧ (0 < v4 → EvL K_X8_valueOf [.ref 72, .int (iI v1)] s6 (fun x14 s13 => EvL K_X8_valueOf [.ref 72, .int (iI v2)] s13 (fun x17 s16 => ((0 : Int) ≤ (gI s6 78 v1) ∧ (gI s6 78 v1) < 3) ∧ EvL K_X8_comes [.long (lI x14), .long (lI x17), .int (iI v4), .long (lI (gL s16 77 (gI s6 78 v1)))] s16 (fun x21 s20 => EvZ K_X8_in [.long (lI x21), .long (lI 0), .long (lI (gL s20 77 (gI s6 78 v1)))] s20 (fun s23 => EvV K_X8_makes [.ref 72, .int (iI (gI s6 78 v1)), .long (lI x21)] s23 (fun s24 => EvI K_X8_holds [.ref 72, .int (iI v3), .int (iI (gI s6 78 v1))] s24 (fun x26 s25 => Q x26 s25))) (fun s23 => Q (-3) s23))))))) ∧ ((gI s6 78 v1) ≠ (gI s6 78 v2) → Q (-13) s6))))) (fun s4 => Q (-2) s4)) (fun s3 => Q (-2) s3)) (fun s2 => Q (-2) s2)) (fun s1 => Q (-2) s1)) : Wx K_X8_sum (QI Q) 0 [(0, .ref 72), (1, .int (iI v1)), (2, .int (iI v2)), (3, .int (iI v3)), (4, .int (iI v4))] [] σ := by
  intro p l e s m args below meth c D cA ad X0 hr hlk
  have X : Cx p s m args c (adA ad) D cA ad RX8 cX8_sum 8 := X0
  refine g_iload_n X 1 dX8_sum_0 rfl ?_
  refine g_cSZ X (K := K_X8_isReel) [.int (iI v1)] [] dX8_sum_1 ls_X8_149 rm_X8_sum_X8_isReel ⟨by decide, by decide⟩ adA_id rfl (Nat.le_of_ble_eq_true rfl) rfl h (fun s1 h => ?_) (fun s1 h => ?_)
  · skip
    refine g_if_eq X (tgt := 34) dX8_sum_4 (by decide) (by omega) (fun hc => absurd hc (by decide)) (fun _ => ?_)
    refine g_iload_n X 2 dX8_sum_7 rfl ?_
    refine g_cSZ X (K := K_X8_isReel) [.int (iI v2)] [] dX8_sum_8 ls_X8_149 rm_X8_sum_X8_isReel ⟨by decide, by decide⟩ adA_id rfl (Nat.le_of_ble_eq_true rfl) rfl h (fun s2 h => ?_) (fun s2 h => ?_)
    · skip
      refine g_if_eq X (tgt := 34) dX8_sum_11 (by decide) (by omega) (fun hc => absurd hc (by decide)) (fun _ => ?_)
      refine g_iload_n X 3 dX8_sum_14 rfl ?_
      refine g_cSZ X (K := K_X8_isReel) [.int (iI v3)] [] dX8_sum_15 ls_X8_149 rm_X8_sum_X8_isReel ⟨by decide, by decide⟩ adA_id rfl (Nat.le_of_ble_eq_true rfl) rfl h (fun s3 h => ?_) (fun s3 h => ?_)
      · skip
        refine g_if_eq X (tgt := 34) dX8_sum_18 (by decide) (by omega) (fun hc => absurd hc (by decide)) (fun _ => ?_)
        refine g_iload X 4 dX8_sum_21 rfl ?_
        refine g_i2l X dX8_sum_23 h32v4 ?_
        refine g_lconst X (z := 0) dX8_sum_24 (by decide +kernel) ?_
        refine g_ldc2 X (z := 4) dX8_sum_25 lc_X8_209 (by decide +kernel) ?_
        refine g_cSZ X (K := K_X8_in) [.long (lI v4), .long (lI 0), .long (lI 4)] [] dX8_sum_28 ls_X8_104 rm_X8_sum_X8_in ⟨by decide, by decide⟩ adA_id rfl (Nat.le_of_ble_eq_true rfl) rfl h (fun s4 h => ?_) (fun s4 h => ?_)
        · skip
          refine g_if_ne X (tgt := 37) dX8_sum_31 (by decide) (by omega) (fun _ => ?_) (fun hc => absurd hc (by decide))
          refine g_aload_n X 0 dX8_sum_37 rfl ?_
          refine g_iload_n X 1 dX8_sum_38 rfl ?_
          refine g_cVZ X (K := K_X8_isEmpty) [.int (iI v1)] [] dX8_sum_39 lv_X8_159 rm_X8_sum_X8_isEmpty ⟨by decide, by decide⟩ adA_id rfl rfl rfl (Nat.le_of_ble_eq_true rfl) rfl h (fun s5 h => ?_) (fun s5 h => ?_)
          · skip
            refine g_if_ne X (tgt := 53) dX8_sum_42 (by decide) (by omega) (fun _ => ?_) (fun hc => absurd hc (by decide))
            refine g_bipush X dX8_sum_53 (by decide +kernel) ?_
            exact g_iret X hr hlk dX8_sum_55 rfl ⟨_, rfl, (by omega), h⟩
          · skip
            refine g_if_ne X (tgt := 53) dX8_sum_42 (by decide) (by omega) (fun hc => absurd hc (by decide)) (fun _ => ?_)
            refine g_aload_n X 0 dX8_sum_45 rfl ?_
            refine g_iload_n X 2 dX8_sum_46 rfl ?_
            refine g_cVZ X (K := K_X8_isEmpty) [.int (iI v2)] [] dX8_sum_47 lv_X8_159 rm_X8_sum_X8_isEmpty ⟨by decide, by decide⟩ adA_id rfl rfl rfl (Nat.le_of_ble_eq_true rfl) rfl h (fun s6 h => ?_) (fun s6 h => ?_)
            · skip
              refine g_if_eq X (tgt := 56) dX8_sum_50 (by decide) (by omega) (fun hc => absurd hc (by decide)) (fun _ => ?_)
              refine g_bipush X dX8_sum_53 (by decide +kernel) ?_
              exact g_iret X hr hlk dX8_sum_55 rfl ⟨_, rfl, (by omega), h⟩
            · skip
              refine g_if_eq X (tgt := 56) dX8_sum_50 (by decide) (by omega) (fun _ => ?_) (fun hc => absurd hc (by decide))
              refine g_aload_n X 0 dX8_sum_56 rfl ?_
              refine g_getF X (f := 78) dX8_sum_57 lf_X8_28 rfl rfl rfl ?_
              refine g_iload_n X 1 dX8_sum_60 rfl ?_
              obtain ⟨q7, h⟩ := h
              refine g_iald X dX8_sum_61 rfl q7.1 q7.2 ?_
              refine g_aload_n X 0 dX8_sum_62 rfl ?_
              refine g_getF X (f := 78) dX8_sum_63 lf_X8_28 rfl rfl rfl ?_
              refine g_iload_n X 2 dX8_sum_66 rfl ?_
              obtain ⟨q8, h⟩ := h
              refine g_iald X dX8_sum_67 rfl q8.1 q8.2 ?_
              obtain ⟨q9, h⟩ := h
              obtain ⟨q10, h⟩ := h
              refine g_icmp_eq X (tgt := 74) dX8_sum_68 (by decide) q9 q10 (fun c11 => ?_) (fun c11 => ?_)
              · have h := h.1 c11
                refine g_aload_n X 0 dX8_sum_74 rfl ?_
                refine g_getF X (f := 78) dX8_sum_75 lf_X8_28 rfl rfl rfl ?_
                refine g_iload_n X 1 dX8_sum_78 rfl ?_
                refine g_iald X dX8_sum_79 rfl q7.1 q7.2 ?_
                refine g_istore X (lv' := [(5, .int (iI (gI s6 78 v1))), (0, .ref 72), (1, .int (iI v1)), (2, .int (iI v2)), (3, .int (iI v3)), (4, .int (iI v4))]) dX8_sum_80 (by decide) rfl ?_
                refine g_iload X 5 dX8_sum_82 rfl ?_
                refine g_if_le X (tgt := 146) dX8_sum_84 (by decide) h32v4 (fun c12 => ?_) (fun c12 => ?_)
                · have h := h.1 c12
                  refine g_iconst X dX8_sum_146 ?_
                  refine g_istore X (lv' := [(6, .int (iI 0)), (5, .int (iI (gI s6 78 v1))), (0, .ref 72), (1, .int (iI v1)), (2, .int (iI v2)), (3, .int (iI v3)), (4, .int (iI v4))]) dX8_sum_147 (by decide) rfl ?_
                  exact g_sub (lv' := [(0, .ref 72), (1, .int (iI v1)), (2, .int (iI v2)), (3, .int (iI v3)), (5, .int (iI (gI s6 78 v1))), (6, .int (iI 0))]) [2, 3, 4, 5, 1, 0] rfl (h p l e s m args below meth c D cA ad X0 hr hlk)
                · have h := h.2 c12
                  refine g_aload_n X 1 dX8_sum_87 rfl ?_
                  refine g_iload_n X 2 dX8_sum_88 rfl ?_
                  refine g_cVL X (K := K_X8_valueOf) [.int (iI v1)] [] dX8_sum_89 lv_X8_174 rm_X8_sum_X8_valueOf ⟨by decide, by decide⟩ adA_id rfl rfl rfl (Nat.le_of_ble_eq_true rfl) rfl h (fun x14 s13 q15 h => ?_)
                  refine g_aload_n X 1 dX8_sum_92 rfl ?_
                  refine g_iload_n X 3 dX8_sum_93 rfl ?_
                  refine g_cVL X (K := K_X8_valueOf) [.int (iI v2)] [.long (lI x14)] dX8_sum_94 lv_X8_174 rm_X8_sum_X8_valueOf ⟨by decide, by decide⟩ adA_id rfl rfl rfl (Nat.le_of_ble_eq_true rfl) rfl h (fun x17 s16 q18 h => ?_)
                  refine g_iload X 5 dX8_sum_97 rfl ?_
                  refine g_aload_n X 1 dX8_sum_99 rfl ?_
                  refine g_getF X (f := 77) dX8_sum_100 lf_X8_25 rfl rfl rfl ?_
                  refine g_iload X 0 dX8_sum_103 rfl ?_
                  obtain ⟨q19, h⟩ := h
                  refine g_lald X dX8_sum_105 rfl q19.1 q19.2 ?_
                  refine g_cSL X (K := K_X8_comes) [.long (lI x14), .long (lI x17), .int (iI v4), .long (lI (gL s16 77 (gI s6 78 v1)))] [] dX8_sum_106 ls_X8_211 rm_X8_sum_X8_comes ⟨by decide, by decide⟩ adA_id rfl (Nat.le_of_ble_eq_true rfl) rfl h (fun x21 s20 q22 h => ?_)
                  refine g_lstore X (lv' := [(6, .long (lI x21)), (5, .int (iI (gI s6 78 v1))), (0, .ref 72), (1, .int (iI v1)), (2, .int (iI v2)), (3, .int (iI v3)), (4, .int (iI v4))]) dX8_sum_109 (by decide) rfl ?_
                  refine g_lload X 0 dX8_sum_111 rfl ?_
                  refine g_lconst X (z := 0) dX8_sum_113 (by decide +kernel) ?_
                  refine g_aload_n X 2 dX8_sum_114 rfl ?_
                  refine g_getF X (f := 77) dX8_sum_115 lf_X8_25 rfl rfl rfl ?_
                  refine g_iload X 1 dX8_sum_118 rfl ?_
                  refine g_lald X dX8_sum_120 rfl q19.1 q19.2 ?_
                  refine g_cSZ X (K := K_X8_in) [.long (lI x21), .long (lI 0), .long (lI (gL s20 77 (gI s6 78 v1)))] [] dX8_sum_121 ls_X8_104 rm_X8_sum_X8_in ⟨by decide, by decide⟩ adA_id rfl (Nat.le_of_ble_eq_true rfl) rfl h (fun s23 h => ?_) (fun s23 h => ?_)
                  · skip
                    refine g_if_ne X (tgt := 130) dX8_sum_124 (by decide) (by omega) (fun _ => ?_) (fun hc => absurd hc (by decide))
                    refine g_aload_n X 2 dX8_sum_130 rfl ?_
                    refine g_iload X 1 dX8_sum_131 rfl ?_
                    refine g_lload X 0 dX8_sum_133 rfl ?_
                    refine g_cVV X (K := K_X8_makes) [.int (iI (gI s6 78 v1)), .long (lI x21)] [] dX8_sum_135 lv_X8_152 rm_X8_sum_X8_makes ⟨by decide, by decide⟩ adA_id rfl rfl rfl (Nat.le_of_ble_eq_true rfl) rfl h (fun s24 h => ?_)
                    refine g_aload_n X 2 dX8_sum_138 rfl ?_
                    refine g_iload_n X 5 dX8_sum_139 rfl ?_
                    refine g_iload X 1 dX8_sum_140 rfl ?_
                    refine g_cVI X (K := K_X8_holds) [.int (iI v3), .int (iI (gI s6 78 v1))] [] dX8_sum_142 lv_X8_156 rm_X8_sum_X8_holds ⟨by decide, by decide⟩ adA_id rfl rfl rfl (Nat.le_of_ble_eq_true rfl) rfl h (fun x26 s25 q27 h => ?_)
                    exact g_iret X hr hlk dX8_sum_145 rfl ⟨_, rfl, q27, h⟩
                  · skip
                    refine g_if_ne X (tgt := 130) dX8_sum_124 (by decide) (by omega) (fun hc => absurd hc (by decide)) (fun _ => ?_)
                    refine g_bipush X dX8_sum_127 (by decide +kernel) ?_
                    exact g_iret X hr hlk dX8_sum_129 rfl ⟨_, rfl, (by omega), h⟩
              · have h := h.2 c11
                refine g_bipush X dX8_sum_71 (by decide +kernel) ?_
                exact g_iret X hr hlk dX8_sum_73 rfl ⟨_, rfl, (by omega), h⟩
        · skip
          refine g_if_ne X (tgt := 37) dX8_sum_31 (by decide) (by omega) (fun hc => absurd hc (by decide)) (fun _ => ?_)
          refine g_bipush X dX8_sum_34 (by decide +kernel) ?_
          exact g_iret X hr hlk dX8_sum_36 rfl ⟨_, rfl, (by omega), h⟩
      · skip
        refine g_if_eq X (tgt := 34) dX8_sum_18 (by decide) (by omega) (fun _ => ?_) (fun hc => absurd hc (by decide))
        refine g_bipush X dX8_sum_34 (by decide +kernel) ?_
        exact g_iret X hr hlk dX8_sum_36 rfl ⟨_, rfl, (by omega), h⟩
    · skip
      refine g_if_eq X (tgt := 34) dX8_sum_11 (by decide) (by omega) (fun _ => ?_) (fun hc => absurd hc (by decide))
      refine g_bipush X dX8_sum_34 (by decide +kernel) ?_
      exact g_iret X hr hlk dX8_sum_36 rfl ⟨_, rfl, (by omega), h⟩
  · skip
    refine g_if_eq X (tgt := 34) dX8_sum_4 (by decide) (by omega) (fun _ => ?_) (fun hc => absurd hc (by decide))
    refine g_bipush X dX8_sum_34 (by decide +kernel) ?_
    exact g_iret X hr hlk dX8_sum_36 rfl ⟨_, rfl, (by omega), h⟩
theorem eX8_sum {v1 : Int} {v2 : Int} {v3 : Int} {v4 : Int} {σ : ASt} {Q : Int → ASt → Prop} (h32v4 : i32 v4) (h : EvZ K_X8_isReel [.int (iI v1)] σ (fun s1 => EvZ K_X8_isReel [.int (iI v2)] s1 (fun s2 => EvZ K_X8_isReel [.int (iI v3)] s2 (fun s3 => EvZ K_X8_in [.long (lI v4), .long (lI 0), .long (lI 4)] s3 (fun s4 => EvZ K_X8_isEmpty [.ref 72, .int (iI v1)] s4 (fun s5 => Q (-11) s5) (fun s5 => EvZ K_X8_isEmpty [.ref 72, .int (iI v2)] s5 (fun s6 => Q (-11) s6) (fun s6 => ((0 : Int) ≤ v1 ∧ v1 < 6) ∧ ((0 : Int) ≤ v2 ∧ v2 < 6) ∧ i32 ((gI s6 78 v1)) ∧ i32 ((gI s6 78 v2)) ∧ (((gI s6 78 v1) = (gI s6 78 v2) → ((v4 ≤ 0 → Wx K_X8_sum (QI Q) 149 [(0, .ref 72), (1, .int (iI v1)), (2, .int (iI v2)), (3, .int (iI v3)), (5, .int (iI (gI s6 78 v1))), (6, .int (iI 0))] [] s6) ∧ (0 < v4 → EvL K_X8_valueOf [.ref 72, .int (iI v1)] s6 (fun x14 s13 => EvL K_X8_valueOf [.ref 72, .int (iI v2)] s13 (fun x17 s16 => ((0 : Int) ≤ (gI s6 78 v1) ∧ (gI s6 78 v1) < 3) ∧ EvL K_X8_comes [.long (lI x14), .long (lI x17), .int (iI v4), .long (lI (gL s16 77 (gI s6 78 v1)))] s16 (fun x21 s20 => EvZ K_X8_in [.long (lI x21), .long (lI 0), .long (lI (gL s20 77 (gI s6 78 v1)))] s20 (fun s23 => EvV K_X8_makes [.ref 72, .int (iI (gI s6 78 v1)), .long (lI x21)] s23 (fun s24 => EvI K_X8_holds [.ref 72, .int (iI v3), .int (iI (gI s6 78 v1))] s24 (fun x26 s25 => Q x26 s25))) (fun s23 => Q (-3) s23))))))) ∧ ((gI s6 78 v1) ≠ (gI s6 78 v2) → Q (-13) s6))))) (fun s4 => Q (-2) s4)) (fun s3 => Q (-2) s3)) (fun s2 => Q (-2) s2)) (fun s1 => Q (-2) s1)) : EvI K_X8_sum [.ref 72, .int (iI v1), .int (iI v2), .int (iI v3), .int (iI v4)] σ Q := Ev.of rfl (Nat.le_of_ble_eq_true rfl) rfl (bX8_sum_0 h32v4 h)
theorem bX8_sum_149 {v1 : Int} {v2 : Int} {v3 : Int} {v5 : Int} {v6 : Int} {σ : ASt} {Q : Int → ASt → Prop} (h32v6 : i32 v6) (h : ((0 : Int) ≤ v5 ∧ v5 < 3) ∧ i32 ((gI σ 75 v5)) ∧ (((gI σ 75 v5) ≤ v6 → EvI K_X8_holds [.ref 72, .int (iI v3), .int (iI v5)] σ (fun x5 s4 => Q x5 s4)) ∧ (v6 < (gI σ 75 v5) → EvI K_X8_digitAt [.ref 72, .int (iI v1), .int (iI v6)] σ (fun x8 s7 => EvI K_X8_digitAt [.ref 72, .int (iI v2), .int (iI v6)] s7 (fun x11 s10 => ((0 : Int) ≤ v6 ∧ v6 < 50) ∧ i32 ((gI (sI s10 80 v6 (x8 + x11)) 80 v6)) ∧ (((gI (sI s10 80 v6 (x8 + x11)) 80 v6) ≤ 99 → Wx K_X8_sum (QI Q) 149 [(0, .ref 72), (1, .int (iI v1)), (2, .int (iI v2)), (3, .int (iI v3)), (5, .int (iI v5)), (6, .int (iI (v6 + 1)))] [] (sI s10 80 v6 (x8 + x11))) ∧ (99 < (gI (sI s10 80 v6 (x8 + x11)) 80 v6) → Q (-3) (sI s10 80 v6 (x8 + x11))))))))) : Wx K_X8_sum (QI Q) 149 [(0, .ref 72), (1, .int (iI v1)), (2, .int (iI v2)), (3, .int (iI v3)), (5, .int (iI v5)), (6, .int (iI v6))] [] σ := by
  intro p l e s m args below meth c D cA ad X0 hr hlk
  have X : Cx p s m args c (adA ad) D cA ad RX8 cX8_sum 8 := X0
  refine g_iload X 5 dX8_sum_149 rfl ?_
  refine g_aload_n X 0 dX8_sum_151 rfl ?_
  refine g_getF X (f := 75) dX8_sum_152 lf_X8_18 rfl rfl rfl ?_
  refine g_iload X 4 dX8_sum_155 rfl ?_
  obtain ⟨q1, h⟩ := h
  refine g_iald X dX8_sum_157 rfl q1.1 q1.2 ?_
  obtain ⟨q2, h⟩ := h
  refine g_icmp_ge X (tgt := 204) dX8_sum_158 (by decide) h32v6 q2 (fun c3 => ?_) (fun c3 => ?_)
  · have h := h.1 c3
    refine g_aload_n X 0 dX8_sum_204 rfl ?_
    refine g_iload_n X 3 dX8_sum_205 rfl ?_
    refine g_iload X 4 dX8_sum_206 rfl ?_
    refine g_cVI X (K := K_X8_holds) [.int (iI v3), .int (iI v5)] [] dX8_sum_208 lv_X8_156 rm_X8_sum_X8_holds ⟨by decide, by decide⟩ adA_id rfl rfl rfl (Nat.le_of_ble_eq_true rfl) rfl h (fun x5 s4 q6 h => ?_)
    exact g_iret X hr hlk dX8_sum_211 rfl ⟨_, rfl, q6, h⟩
  · have h := h.2 c3
    refine g_aload_n X 0 dX8_sum_161 rfl ?_
    refine g_getF X (f := 80) dX8_sum_162 lf_X8_34 rfl rfl rfl ?_
    refine g_iload X 5 dX8_sum_165 rfl ?_
    refine g_aload_n X 0 dX8_sum_167 rfl ?_
    refine g_iload_n X 1 dX8_sum_168 rfl ?_
    refine g_iload X 5 dX8_sum_169 rfl ?_
    refine g_cVI X (K := K_X8_digitAt) [.int (iI v1), .int (iI v6)] [.int (iI v6), .ref 80] dX8_sum_171 lv_X8_140 rm_X8_sum_X8_digitAt ⟨by decide, by decide⟩ adA_id rfl rfl rfl (Nat.le_of_ble_eq_true rfl) rfl h (fun x8 s7 q9 h => ?_)
    refine g_aload_n X 0 dX8_sum_174 rfl ?_
    refine g_iload_n X 2 dX8_sum_175 rfl ?_
    refine g_iload X 5 dX8_sum_176 rfl ?_
    refine g_cVI X (K := K_X8_digitAt) [.int (iI v2), .int (iI v6)] [.int (iI x8), .int (iI v6), .ref 80] dX8_sum_178 lv_X8_140 rm_X8_sum_X8_digitAt ⟨by decide, by decide⟩ adA_id rfl rfl rfl (Nat.le_of_ble_eq_true rfl) rfl h (fun x11 s10 q12 h => ?_)
    refine g_iadd X dX8_sum_181 ?_
    obtain ⟨q13, h⟩ := h
    refine g_iast X dX8_sum_182 rfl q13.1 q13.2 ?_
    refine g_aload_n X 0 dX8_sum_183 rfl ?_
    refine g_getF X (f := 80) dX8_sum_184 lf_X8_34 rfl rfl rfl ?_
    refine g_iload X 5 dX8_sum_187 rfl ?_
    refine g_iald X dX8_sum_189 rfl q13.1 q13.2 ?_
    refine g_bipush X dX8_sum_190 (by decide +kernel) ?_
    obtain ⟨q14, h⟩ := h
    refine g_icmp_le X (tgt := 198) dX8_sum_192 (by decide) q14 (by omega) (fun c15 => ?_) (fun c15 => ?_)
    · have h := h.1 c15
      refine g_iinc X (x := v6) (lv' := [(6, .int (iI (v6 + 1))), (0, .ref 72), (1, .int (iI v1)), (2, .int (iI v2)), (3, .int (iI v3)), (5, .int (iI v5))]) 5 dX8_sum_198 rfl (by decide) rfl ?_
      refine g_goto X (tgt := 149) dX8_sum_201 (by decide) ?_
      exact g_sub (lv' := [(0, .ref 72), (1, .int (iI v1)), (2, .int (iI v2)), (3, .int (iI v3)), (5, .int (iI v5)), (6, .int (iI (v6 + 1)))]) [1, 2, 3, 4, 5, 0] rfl (h p l e s m args below meth c D cA ad X0 hr hlk)
    · have h := h.2 c15
      refine g_bipush X dX8_sum_195 (by decide +kernel) ?_
      exact g_iret X hr hlk dX8_sum_197 rfl ⟨_, rfl, (by omega), h⟩
theorem bX8_taken_0 {v1 : Int} {v2 : Int} {σ : ASt} {Q : Int → ASt → Prop} (h32v2 : i32 v2) (h : EvZ K_X8_isBase [.int (iI v1)] σ (fun s1 => EvZ K_X8_in [.long (lI v2), .long (lI 0), .long (lI 3)] s1 (fun s2 => EvI K_X8_kind [.ref 72, .int (iI v1)] s2 (fun x4 s3 => ((v2 = 0 → Q x4 s3) ∧ (v2 ≠ 0 → ((v2 = x4 → Q x4 s3) ∧ (v2 ≠ x4 → ((v2 ≠ 1 → Q (-13) s3) ∧ (v2 = 1 → ((x4 ≤ 0 → Q (-13) s3) ∧ (0 < x4 → Q x4 s3)))))))))) (fun s2 => Q (-2) s2)) (fun s1 => Q (-2) s1)) : Wx K_X8_taken (QI Q) 0 [(0, .ref 72), (1, .int (iI v1)), (2, .int (iI v2))] [] σ := by
  intro p l e s m args below meth c D cA ad X0 hr hlk
  have X : Cx p s m args c (adA ad) D cA ad RX8 cX8_taken 4 := X0
  refine g_iload_n X 1 dX8_taken_0 rfl ?_
  refine g_cSZ X (K := K_X8_isBase) [.int (iI v1)] [] dX8_taken_1 ls_X8_114 rm_X8_taken_X8_isBase ⟨by decide, by decide⟩ adA_id rfl (Nat.le_of_ble_eq_true rfl) rfl h (fun s1 h => ?_) (fun s1 h => ?_)
  · skip
    refine g_if_eq X (tgt := 19) dX8_taken_4 (by decide) (by omega) (fun hc => absurd hc (by decide)) (fun _ => ?_)
    refine g_iload_n X 2 dX8_taken_7 rfl ?_
    refine g_i2l X dX8_taken_8 h32v2 ?_
    refine g_lconst X (z := 0) dX8_taken_9 (by decide +kernel) ?_
    refine g_ldc2 X (z := 3) dX8_taken_10 lc_X8_133 (by decide +kernel) ?_
    refine g_cSZ X (K := K_X8_in) [.long (lI v2), .long (lI 0), .long (lI 3)] [] dX8_taken_13 ls_X8_104 rm_X8_taken_X8_in ⟨by decide, by decide⟩ adA_id rfl (Nat.le_of_ble_eq_true rfl) rfl h (fun s2 h => ?_) (fun s2 h => ?_)
    · skip
      refine g_if_ne X (tgt := 22) dX8_taken_16 (by decide) (by omega) (fun _ => ?_) (fun hc => absurd hc (by decide))
      refine g_aload_n X 0 dX8_taken_22 rfl ?_
      refine g_iload_n X 1 dX8_taken_23 rfl ?_
      refine g_cVI X (K := K_X8_kind) [.int (iI v1)] [] dX8_taken_24 lv_X8_123 rm_X8_taken_X8_kind ⟨by decide, by decide⟩ adA_id rfl rfl rfl (Nat.le_of_ble_eq_true rfl) rfl h (fun x4 s3 q5 h => ?_)
      refine g_istore_n X (lv' := [(3, .int (iI x4)), (0, .ref 72), (1, .int (iI v1)), (2, .int (iI v2))]) dX8_taken_27 (by decide) rfl ?_
      refine g_iload_n X 3 dX8_taken_28 rfl ?_
      refine g_if_eq X (tgt := 46) dX8_taken_29 (by decide) h32v2 (fun c6 => ?_) (fun c6 => ?_)
      · have h := h.1 c6
        refine g_iload_n X 0 dX8_taken_46 rfl ?_
        refine g_goto X (tgt := 52) dX8_taken_47 (by decide) ?_
        exact g_iret X hr hlk dX8_taken_52 rfl ⟨_, rfl, q5, h⟩
      · have h := h.2 c6
        refine g_iload_n X 3 dX8_taken_32 rfl ?_
        refine g_iload_n X 0 dX8_taken_33 rfl ?_
        refine g_icmp_eq X (tgt := 46) dX8_taken_34 (by decide) h32v2 q5 (fun c7 => ?_) (fun c7 => ?_)
        · have h := h.1 c7
          refine g_iload_n X 0 dX8_taken_46 rfl ?_
          refine g_goto X (tgt := 52) dX8_taken_47 (by decide) ?_
          exact g_iret X hr hlk dX8_taken_52 rfl ⟨_, rfl, q5, h⟩
        · have h := h.2 c7
          refine g_iload_n X 3 dX8_taken_37 rfl ?_
          refine g_iconst X dX8_taken_38 ?_
          refine g_icmp_ne X (tgt := 50) dX8_taken_39 (by decide) h32v2 (by omega) (fun c8 => ?_) (fun c8 => ?_)
          · have h := h.1 c8
            refine g_bipush X dX8_taken_50 (by decide +kernel) ?_
            exact g_iret X hr hlk dX8_taken_52 rfl ⟨_, rfl, (by omega), h⟩
          · have h := h.2 c8
            refine g_iload_n X 0 dX8_taken_42 rfl ?_
            refine g_if_le X (tgt := 50) dX8_taken_43 (by decide) q5 (fun c9 => ?_) (fun c9 => ?_)
            · have h := h.1 c9
              refine g_bipush X dX8_taken_50 (by decide +kernel) ?_
              exact g_iret X hr hlk dX8_taken_52 rfl ⟨_, rfl, (by omega), h⟩
            · have h := h.2 c9
              refine g_iload_n X 0 dX8_taken_46 rfl ?_
              refine g_goto X (tgt := 52) dX8_taken_47 (by decide) ?_
              exact g_iret X hr hlk dX8_taken_52 rfl ⟨_, rfl, q5, h⟩
    · skip
      refine g_if_ne X (tgt := 22) dX8_taken_16 (by decide) (by omega) (fun hc => absurd hc (by decide)) (fun _ => ?_)
      refine g_bipush X dX8_taken_19 (by decide +kernel) ?_
      exact g_iret X hr hlk dX8_taken_21 rfl ⟨_, rfl, (by omega), h⟩
  · skip
    refine g_if_eq X (tgt := 19) dX8_taken_4 (by decide) (by omega) (fun _ => ?_) (fun hc => absurd hc (by decide))
    refine g_bipush X dX8_taken_19 (by decide +kernel) ?_
    exact g_iret X hr hlk dX8_taken_21 rfl ⟨_, rfl, (by omega), h⟩
theorem eX8_taken {v1 : Int} {v2 : Int} {σ : ASt} {Q : Int → ASt → Prop} (h32v2 : i32 v2) (h : EvZ K_X8_isBase [.int (iI v1)] σ (fun s1 => EvZ K_X8_in [.long (lI v2), .long (lI 0), .long (lI 3)] s1 (fun s2 => EvI K_X8_kind [.ref 72, .int (iI v1)] s2 (fun x4 s3 => ((v2 = 0 → Q x4 s3) ∧ (v2 ≠ 0 → ((v2 = x4 → Q x4 s3) ∧ (v2 ≠ x4 → ((v2 ≠ 1 → Q (-13) s3) ∧ (v2 = 1 → ((x4 ≤ 0 → Q (-13) s3) ∧ (0 < x4 → Q x4 s3)))))))))) (fun s2 => Q (-2) s2)) (fun s1 => Q (-2) s1)) : EvI K_X8_taken [.ref 72, .int (iI v1), .int (iI v2)] σ Q := Ev.of rfl (Nat.le_of_ble_eq_true rfl) rfl (bX8_taken_0 h32v2 h)
theorem bX8_told_0 {v1 : Int} {v2 : Int} {σ : ASt} {Q : Int → ASt → Prop} (h32v2 : i32 v2) (h : EvZ K_X8_isReel [.int (iI v1)] σ (fun s1 => EvZ K_X8_in [.long (lI v2), .long (lI 0), .long (lI 3)] s1 (fun s2 => EvZ K_X8_isEmpty [.ref 72, .int (iI v1)] s2 (fun s3 => Q (-11) s3) (fun s3 => ((v2 ≠ 0 → ((v2 ≠ 1 → ((v2 ≠ 2 → EvI K_X8_highest [.ref 72, .int (iI v1)] s3 (fun x8 s7 => Q x8 s7)) ∧ (v2 = 2 → EvI K_X8_filled [.ref 72, .int (iI v1)] s3 (fun x11 s10 => Q x11 s10)))) ∧ (v2 = 1 → EvZ K_X8_isLegal [.ref 72, .int (iI v1)] s3 (fun s13 => Q 1 s13) (fun s13 => Q 0 s13)))) ∧ (v2 = 0 → ((0 : Int) ≤ v1 ∧ v1 < 6) ∧ i32 ((gI s3 78 v1)) ∧ Q (gI s3 78 v1) s3)))) (fun s2 => Q (-2) s2)) (fun s1 => Q (-2) s1)) : Wx K_X8_told (QI Q) 0 [(0, .ref 72), (1, .int (iI v1)), (2, .int (iI v2))] [] σ := by
  intro p l e s m args below meth c D cA ad X0 hr hlk
  have X : Cx p s m args c (adA ad) D cA ad RX8 cX8_told 3 := X0
  refine g_iload_n X 1 dX8_told_0 rfl ?_
  refine g_cSZ X (K := K_X8_isReel) [.int (iI v1)] [] dX8_told_1 ls_X8_149 rm_X8_told_X8_isReel ⟨by decide, by decide⟩ adA_id rfl (Nat.le_of_ble_eq_true rfl) rfl h (fun s1 h => ?_) (fun s1 h => ?_)
  · skip
    refine g_if_eq X (tgt := 19) dX8_told_4 (by decide) (by omega) (fun hc => absurd hc (by decide)) (fun _ => ?_)
    refine g_iload_n X 2 dX8_told_7 rfl ?_
    refine g_i2l X dX8_told_8 h32v2 ?_
    refine g_lconst X (z := 0) dX8_told_9 (by decide +kernel) ?_
    refine g_ldc2 X (z := 3) dX8_told_10 lc_X8_133 (by decide +kernel) ?_
    refine g_cSZ X (K := K_X8_in) [.long (lI v2), .long (lI 0), .long (lI 3)] [] dX8_told_13 ls_X8_104 rm_X8_told_X8_in ⟨by decide, by decide⟩ adA_id rfl (Nat.le_of_ble_eq_true rfl) rfl h (fun s2 h => ?_) (fun s2 h => ?_)
    · skip
      refine g_if_ne X (tgt := 22) dX8_told_16 (by decide) (by omega) (fun _ => ?_) (fun hc => absurd hc (by decide))
      refine g_aload_n X 0 dX8_told_22 rfl ?_
      refine g_iload_n X 1 dX8_told_23 rfl ?_
      refine g_cVZ X (K := K_X8_isEmpty) [.int (iI v1)] [] dX8_told_24 lv_X8_159 rm_X8_told_X8_isEmpty ⟨by decide, by decide⟩ adA_id rfl rfl rfl (Nat.le_of_ble_eq_true rfl) rfl h (fun s3 h => ?_) (fun s3 h => ?_)
      · skip
        refine g_if_eq X (tgt := 33) dX8_told_27 (by decide) (by omega) (fun hc => absurd hc (by decide)) (fun _ => ?_)
        refine g_bipush X dX8_told_30 (by decide +kernel) ?_
        exact g_iret X hr hlk dX8_told_32 rfl ⟨_, rfl, (by omega), h⟩
      · skip
        refine g_if_eq X (tgt := 33) dX8_told_27 (by decide) (by omega) (fun _ => ?_) (fun hc => absurd hc (by decide))
        refine g_iload_n X 2 dX8_told_33 rfl ?_
        refine g_if_ne X (tgt := 46) dX8_told_34 (by decide) h32v2 (fun c4 => ?_) (fun c4 => ?_)
        · have h := h.1 c4
          refine g_iload_n X 2 dX8_told_46 rfl ?_
          refine g_iconst X dX8_told_47 ?_
          refine g_icmp_ne X (tgt := 67) dX8_told_48 (by decide) h32v2 (by omega) (fun c5 => ?_) (fun c5 => ?_)
          · have h := h.1 c5
            refine g_iload_n X 2 dX8_told_67 rfl ?_
            refine g_iconst X dX8_told_68 ?_
            refine g_icmp_ne X (tgt := 80) dX8_told_69 (by decide) h32v2 (by omega) (fun c6 => ?_) (fun c6 => ?_)
            · have h := h.1 c6
              refine g_aload_n X 0 dX8_told_80 rfl ?_
              refine g_iload_n X 1 dX8_told_81 rfl ?_
              refine g_cVI X (K := K_X8_highest) [.int (iI v1)] [] dX8_told_82 lv_X8_168 rm_X8_told_X8_highest ⟨by decide, by decide⟩ adA_id rfl rfl rfl (Nat.le_of_ble_eq_true rfl) rfl h (fun x8 s7 q9 h => ?_)
              exact g_iret X hr hlk dX8_told_85 rfl ⟨_, rfl, q9, h⟩
            · have h := h.2 c6
              refine g_aload_n X 0 dX8_told_72 rfl ?_
              refine g_iload_n X 1 dX8_told_73 rfl ?_
              refine g_cVI X (K := K_X8_filled) [.int (iI v1)] [] dX8_told_74 lv_X8_146 rm_X8_told_X8_filled ⟨by decide, by decide⟩ adA_id rfl rfl rfl (Nat.le_of_ble_eq_true rfl) rfl h (fun x11 s10 q12 h => ?_)
              refine g_goto X (tgt := 85) dX8_told_77 (by decide) ?_
              exact g_iret X hr hlk dX8_told_85 rfl ⟨_, rfl, q12, h⟩
          · have h := h.2 c5
            refine g_aload_n X 0 dX8_told_51 rfl ?_
            refine g_iload_n X 1 dX8_told_52 rfl ?_
            refine g_cVZ X (K := K_X8_isLegal) [.int (iI v1)] [] dX8_told_53 lv_X8_165 rm_X8_told_X8_isLegal ⟨by decide, by decide⟩ adA_id rfl rfl rfl (Nat.le_of_ble_eq_true rfl) rfl h (fun s13 h => ?_) (fun s13 h => ?_)
            · skip
              refine g_if_eq X (tgt := 63) dX8_told_56 (by decide) (by omega) (fun hc => absurd hc (by decide)) (fun _ => ?_)
              refine g_iconst X dX8_told_59 ?_
              refine g_goto X (tgt := 85) dX8_told_60 (by decide) ?_
              exact g_iret X hr hlk dX8_told_85 rfl ⟨_, rfl, (by omega), h⟩
            · skip
              refine g_if_eq X (tgt := 63) dX8_told_56 (by decide) (by omega) (fun _ => ?_) (fun hc => absurd hc (by decide))
              refine g_iconst X dX8_told_63 ?_
              refine g_goto X (tgt := 85) dX8_told_64 (by decide) ?_
              exact g_iret X hr hlk dX8_told_85 rfl ⟨_, rfl, (by omega), h⟩
        · have h := h.2 c4
          refine g_aload_n X 0 dX8_told_37 rfl ?_
          refine g_getF X (f := 78) dX8_told_38 lf_X8_28 rfl rfl rfl ?_
          refine g_iload_n X 1 dX8_told_41 rfl ?_
          obtain ⟨q14, h⟩ := h
          refine g_iald X dX8_told_42 rfl q14.1 q14.2 ?_
          refine g_goto X (tgt := 85) dX8_told_43 (by decide) ?_
          obtain ⟨q15, h⟩ := h
          exact g_iret X hr hlk dX8_told_85 rfl ⟨_, rfl, q15, h⟩
    · skip
      refine g_if_ne X (tgt := 22) dX8_told_16 (by decide) (by omega) (fun hc => absurd hc (by decide)) (fun _ => ?_)
      refine g_bipush X dX8_told_19 (by decide +kernel) ?_
      exact g_iret X hr hlk dX8_told_21 rfl ⟨_, rfl, (by omega), h⟩
  · skip
    refine g_if_eq X (tgt := 19) dX8_told_4 (by decide) (by omega) (fun _ => ?_) (fun hc => absurd hc (by decide))
    refine g_bipush X dX8_told_19 (by decide +kernel) ?_
    exact g_iret X hr hlk dX8_told_21 rfl ⟨_, rfl, (by omega), h⟩
theorem eX8_told {v1 : Int} {v2 : Int} {σ : ASt} {Q : Int → ASt → Prop} (h32v2 : i32 v2) (h : EvZ K_X8_isReel [.int (iI v1)] σ (fun s1 => EvZ K_X8_in [.long (lI v2), .long (lI 0), .long (lI 3)] s1 (fun s2 => EvZ K_X8_isEmpty [.ref 72, .int (iI v1)] s2 (fun s3 => Q (-11) s3) (fun s3 => ((v2 ≠ 0 → ((v2 ≠ 1 → ((v2 ≠ 2 → EvI K_X8_highest [.ref 72, .int (iI v1)] s3 (fun x8 s7 => Q x8 s7)) ∧ (v2 = 2 → EvI K_X8_filled [.ref 72, .int (iI v1)] s3 (fun x11 s10 => Q x11 s10)))) ∧ (v2 = 1 → EvZ K_X8_isLegal [.ref 72, .int (iI v1)] s3 (fun s13 => Q 1 s13) (fun s13 => Q 0 s13)))) ∧ (v2 = 0 → ((0 : Int) ≤ v1 ∧ v1 < 6) ∧ i32 ((gI s3 78 v1)) ∧ Q (gI s3 78 v1) s3)))) (fun s2 => Q (-2) s2)) (fun s1 => Q (-2) s1)) : EvI K_X8_told [.ref 72, .int (iI v1), .int (iI v2)] σ Q := Ev.of rfl (Nat.le_of_ble_eq_true rfl) rfl (bX8_told_0 h32v2 h)
theorem bX8_top_0 {v1 : Int} {σ : ASt} {Q : Int → ASt → Prop}  (h : EvZ K_X8_isBase [.int (iI v1)] σ (fun s1 => ((0 : Int) ≤ v1 ∧ v1 < 3) ∧ i64 ((gL s1 77 v1)) ∧ Q (gL s1 77 v1) s1) (fun s1 => Q (-9223372036854775808) s1)) : Wx K_X8_top (QL Q) 0 [(0, .ref 72), (1, .int (iI v1))] [] σ := by
  intro p l e s m args below meth c D cA ad X0 hr hlk
  have X : Cx p s m args c (adA ad) D cA ad RX8 cX8_top 2 := X0
  refine g_iload_n X 1 dX8_top_0 rfl ?_
  refine g_cSZ X (K := K_X8_isBase) [.int (iI v1)] [] dX8_top_1 ls_X8_114 rm_X8_top_X8_isBase ⟨by decide, by decide⟩ adA_id rfl (Nat.le_of_ble_eq_true rfl) rfl h (fun s1 h => ?_) (fun s1 h => ?_)
  · skip
    refine g_if_eq X (tgt := 16) dX8_top_4 (by decide) (by omega) (fun hc => absurd hc (by decide)) (fun _ => ?_)
    refine g_aload_n X 0 dX8_top_7 rfl ?_
    refine g_getF X (f := 77) dX8_top_8 lf_X8_25 rfl rfl rfl ?_
    refine g_iload_n X 1 dX8_top_11 rfl ?_
    obtain ⟨q2, h⟩ := h
    refine g_lald X dX8_top_12 rfl q2.1 q2.2 ?_
    refine g_goto X (tgt := 19) dX8_top_13 (by decide) ?_
    obtain ⟨q3, h⟩ := h
    exact g_lret X hr hlk dX8_top_19 ⟨_, rfl, q3, h⟩
  · skip
    refine g_if_eq X (tgt := 16) dX8_top_4 (by decide) (by omega) (fun _ => ?_) (fun hc => absurd hc (by decide))
    refine g_ldc2 X (z := (-9223372036854775808)) dX8_top_16 lc_X8_127 (by decide +kernel) ?_
    exact g_lret X hr hlk dX8_top_19 ⟨_, rfl, (by omega), h⟩
theorem eX8_top {v1 : Int} {σ : ASt} {Q : Int → ASt → Prop}  (h : EvZ K_X8_isBase [.int (iI v1)] σ (fun s1 => ((0 : Int) ≤ v1 ∧ v1 < 3) ∧ i64 ((gL s1 77 v1)) ∧ Q (gL s1 77 v1) s1) (fun s1 => Q (-9223372036854775808) s1)) : EvL K_X8_top [.ref 72, .int (iI v1)] σ Q := Ev.of rfl (Nat.le_of_ble_eq_true rfl) rfl (bX8_top_0  h)
theorem bX8_undo_0 {σ : ASt} {Q : Int → ASt → Prop}  (h : i32 ((gI σ 72 33)) ∧ (((gI σ 72 33) ≠ 0 → Wx K_X8_undo (QI Q) 12 [(0, .ref 72), (1, .int (iI 0))] [] σ) ∧ ((gI σ 72 33) = 0 → Q (-3) σ))) : Wx K_X8_undo (QI Q) 0 [(0, .ref 72)] [] σ := by
  intro p l e s m args below meth c D cA ad X0 hr hlk
  have X : Cx p s m args c (adA ad) D cA ad RX8 cX8_undo 2 := X0
  refine g_aload_n X 0 dX8_undo_0 rfl ?_
  refine g_getI X (z := 33) dX8_undo_1 lf_X8_257 rfl rfl rfl ?_
  obtain ⟨q1, h⟩ := h
  refine g_if_ne X (tgt := 10) dX8_undo_4 (by decide) q1 (fun c2 => ?_) (fun c2 => ?_)
  · have h := h.1 c2
    refine g_iconst X dX8_undo_10 ?_
    refine g_istore_n X (lv' := [(1, .int (iI 0)), (0, .ref 72)]) dX8_undo_11 (by decide) rfl ?_
    exact g_sub (lv' := [(0, .ref 72), (1, .int (iI 0))]) [1, 0] rfl (h p l e s m args below meth c D cA ad X0 hr hlk)
  · have h := h.2 c2
    refine g_bipush X dX8_undo_7 (by decide +kernel) ?_
    exact g_iret X hr hlk dX8_undo_9 rfl ⟨_, rfl, (by omega), h⟩
theorem eX8_undo {σ : ASt} {Q : Int → ASt → Prop}  (h : i32 ((gI σ 72 33)) ∧ (((gI σ 72 33) ≠ 0 → Wx K_X8_undo (QI Q) 12 [(0, .ref 72), (1, .int (iI 0))] [] σ) ∧ ((gI σ 72 33) = 0 → Q (-3) σ))) : EvI K_X8_undo [.ref 72] σ Q := Ev.of rfl (Nat.le_of_ble_eq_true rfl) rfl (bX8_undo_0  h)
theorem bX8_undo_12 {v1 : Int} {σ : ASt} {Q : Int → ASt → Prop} (h32v1 : i32 v1) (h : ((24 ≤ v1 → Wx K_X8_undo (QI Q) 38 [(0, .ref 72), (1, .int (iI 0))] [] σ) ∧ (v1 < 24 → ((0 : Int) ≤ v1 ∧ v1 < 24) ∧ Wx K_X8_undo (QI Q) 12 [(0, .ref 72), (1, .int (iI (v1 + 1)))] [] (sI σ 73 v1 (gI σ 97 v1))))) : Wx K_X8_undo (QI Q) 12 [(0, .ref 72), (1, .int (iI v1))] [] σ := by
  intro p l e s m args below meth c D cA ad X0 hr hlk
  have X : Cx p s m args c (adA ad) D cA ad RX8 cX8_undo 2 := X0
  refine g_iload_n X 1 dX8_undo_12 rfl ?_
  refine g_bipush X dX8_undo_13 (by decide +kernel) ?_
  refine g_icmp_ge X (tgt := 36) dX8_undo_15 (by decide) h32v1 (by omega) (fun c1 => ?_) (fun c1 => ?_)
  · have h := h.1 c1
    refine g_iconst X dX8_undo_36 ?_
    refine g_istore_n X (lv' := [(1, .int (iI 0)), (0, .ref 72)]) dX8_undo_37 (by decide) rfl ?_
    exact g_sub (lv' := [(0, .ref 72), (1, .int (iI 0))]) [1, 0] rfl (h p l e s m args below meth c D cA ad X0 hr hlk)
  · have h := h.2 c1
    refine g_aload_n X 0 dX8_undo_18 rfl ?_
    refine g_getF X (f := 73) dX8_undo_19 lf_X8_11 rfl rfl rfl ?_
    refine g_iload_n X 1 dX8_undo_22 rfl ?_
    refine g_aload_n X 0 dX8_undo_23 rfl ?_
    refine g_getF X (f := 97) dX8_undo_24 lf_X8_86 rfl rfl rfl ?_
    refine g_iload_n X 1 dX8_undo_27 rfl ?_
    obtain ⟨q2, h⟩ := h
    refine g_iald X dX8_undo_28 rfl q2.1 q2.2 ?_
    refine g_iast X dX8_undo_29 rfl q2.1 q2.2 ?_
    refine g_iinc X (x := v1) (lv' := [(1, .int (iI (v1 + 1))), (0, .ref 72)]) 1 dX8_undo_30 rfl (by decide) rfl ?_
    refine g_goto X (tgt := 12) dX8_undo_33 (by decide) ?_
    exact g_sub (lv' := [(0, .ref 72), (1, .int (iI (v1 + 1)))]) [1, 0] rfl (h p l e s m args below meth c D cA ad X0 hr hlk)
theorem bX8_undo_38 {v1 : Int} {σ : ASt} {Q : Int → ASt → Prop} (h32v1 : i32 v1) (h : ((3 ≤ v1 → Wx K_X8_undo (QI Q) 68 [(0, .ref 72), (1, .int (iI 0))] [] σ) ∧ (v1 < 3 → ((0 : Int) ≤ v1 ∧ v1 < 3) ∧ EvV K_X8_fills [.ref 72, .int (iI v1)] (sI σ 74 v1 (gI σ 98 v1)) (fun s3 => Wx K_X8_undo (QI Q) 38 [(0, .ref 72), (1, .int (iI (v1 + 1)))] [] s3)))) : Wx K_X8_undo (QI Q) 38 [(0, .ref 72), (1, .int (iI v1))] [] σ := by
  intro p l e s m args below meth c D cA ad X0 hr hlk
  have X : Cx p s m args c (adA ad) D cA ad RX8 cX8_undo 2 := X0
  refine g_iload_n X 1 dX8_undo_38 rfl ?_
  refine g_iconst X dX8_undo_39 ?_
  refine g_icmp_ge X (tgt := 66) dX8_undo_40 (by decide) h32v1 (by omega) (fun c1 => ?_) (fun c1 => ?_)
  · have h := h.1 c1
    refine g_iconst X dX8_undo_66 ?_
    refine g_istore_n X (lv' := [(1, .int (iI 0)), (0, .ref 72)]) dX8_undo_67 (by decide) rfl ?_
    exact g_sub (lv' := [(0, .ref 72), (1, .int (iI 0))]) [1, 0] rfl (h p l e s m args below meth c D cA ad X0 hr hlk)
  · have h := h.2 c1
    refine g_aload_n X 0 dX8_undo_43 rfl ?_
    refine g_getF X (f := 74) dX8_undo_44 lf_X8_15 rfl rfl rfl ?_
    refine g_iload_n X 1 dX8_undo_47 rfl ?_
    refine g_aload_n X 0 dX8_undo_48 rfl ?_
    refine g_getF X (f := 98) dX8_undo_49 lf_X8_89 rfl rfl rfl ?_
    refine g_iload_n X 1 dX8_undo_52 rfl ?_
    obtain ⟨q2, h⟩ := h
    refine g_iald X dX8_undo_53 rfl q2.1 q2.2 ?_
    refine g_iast X dX8_undo_54 rfl q2.1 q2.2 ?_
    refine g_aload_n X 0 dX8_undo_55 rfl ?_
    refine g_iload_n X 1 dX8_undo_56 rfl ?_
    refine g_cVV X (K := K_X8_fills) [.int (iI v1)] [] dX8_undo_57 lv_X8_98 rm_X8_undo_X8_fills ⟨by decide, by decide⟩ adA_id rfl rfl rfl (Nat.le_of_ble_eq_true rfl) rfl h (fun s3 h => ?_)
    refine g_iinc X (x := v1) (lv' := [(1, .int (iI (v1 + 1))), (0, .ref 72)]) 1 dX8_undo_60 rfl (by decide) rfl ?_
    refine g_goto X (tgt := 38) dX8_undo_63 (by decide) ?_
    exact g_sub (lv' := [(0, .ref 72), (1, .int (iI (v1 + 1)))]) [1, 0] rfl (h p l e s m args below meth c D cA ad X0 hr hlk)
theorem bX8_undo_68 {v1 : Int} {σ : ASt} {Q : Int → ASt → Prop} (h32v1 : i32 v1) (h : ((6 ≤ v1 → Wx K_X8_undo (QI Q) 94 [(0, .ref 72), (1, .int (iI 0))] [] σ) ∧ (v1 < 6 → ((0 : Int) ≤ v1 ∧ v1 < 6) ∧ Wx K_X8_undo (QI Q) 68 [(0, .ref 72), (1, .int (iI (v1 + 1)))] [] (sI σ 78 v1 (gI σ 99 v1))))) : Wx K_X8_undo (QI Q) 68 [(0, .ref 72), (1, .int (iI v1))] [] σ := by
  intro p l e s m args below meth c D cA ad X0 hr hlk
  have X : Cx p s m args c (adA ad) D cA ad RX8 cX8_undo 2 := X0
  refine g_iload_n X 1 dX8_undo_68 rfl ?_
  refine g_bipush X dX8_undo_69 (by decide +kernel) ?_
  refine g_icmp_ge X (tgt := 92) dX8_undo_71 (by decide) h32v1 (by omega) (fun c1 => ?_) (fun c1 => ?_)
  · have h := h.1 c1
    refine g_iconst X dX8_undo_92 ?_
    refine g_istore_n X (lv' := [(1, .int (iI 0)), (0, .ref 72)]) dX8_undo_93 (by decide) rfl ?_
    exact g_sub (lv' := [(0, .ref 72), (1, .int (iI 0))]) [1, 0] rfl (h p l e s m args below meth c D cA ad X0 hr hlk)
  · have h := h.2 c1
    refine g_aload_n X 0 dX8_undo_74 rfl ?_
    refine g_getF X (f := 78) dX8_undo_75 lf_X8_28 rfl rfl rfl ?_
    refine g_iload_n X 1 dX8_undo_78 rfl ?_
    refine g_aload_n X 0 dX8_undo_79 rfl ?_
    refine g_getF X (f := 99) dX8_undo_80 lf_X8_92 rfl rfl rfl ?_
    refine g_iload_n X 1 dX8_undo_83 rfl ?_
    obtain ⟨q2, h⟩ := h
    refine g_iald X dX8_undo_84 rfl q2.1 q2.2 ?_
    refine g_iast X dX8_undo_85 rfl q2.1 q2.2 ?_
    refine g_iinc X (x := v1) (lv' := [(1, .int (iI (v1 + 1))), (0, .ref 72)]) 1 dX8_undo_86 rfl (by decide) rfl ?_
    refine g_goto X (tgt := 68) dX8_undo_89 (by decide) ?_
    exact g_sub (lv' := [(0, .ref 72), (1, .int (iI (v1 + 1)))]) [1, 0] rfl (h p l e s m args below meth c D cA ad X0 hr hlk)
theorem bX8_undo_94 {v1 : Int} {σ : ASt} {Q : Int → ASt → Prop} (h32v1 : i32 v1) (h : ((300 ≤ v1 → EvI K_X8_full [.ref 72] (sI σ 72 10 0) (fun x3 s2 => Q x3 s2)) ∧ (v1 < 300 → ((0 : Int) ≤ v1 ∧ v1 < 300) ∧ Wx K_X8_undo (QI Q) 94 [(0, .ref 72), (1, .int (iI (v1 + 1)))] [] (sI σ 79 v1 (gI σ 100 v1))))) : Wx K_X8_undo (QI Q) 94 [(0, .ref 72), (1, .int (iI v1))] [] σ := by
  intro p l e s m args below meth c D cA ad X0 hr hlk
  have X : Cx p s m args c (adA ad) D cA ad RX8 cX8_undo 2 := X0
  refine g_iload_n X 1 dX8_undo_94 rfl ?_
  refine g_sipush X dX8_undo_95 (by decide +kernel) ?_
  refine g_icmp_ge X (tgt := 119) dX8_undo_98 (by decide) h32v1 (by omega) (fun c1 => ?_) (fun c1 => ?_)
  · have h := h.1 c1
    refine g_aload_n X 0 dX8_undo_119 rfl ?_
    refine g_iconst X dX8_undo_120 ?_
    refine g_putI X (j := 10) (z := 10) dX8_undo_121 lp_X8_178 rfl rfl rfl ?_
    refine g_aload_n X 0 dX8_undo_124 rfl ?_
    refine g_cVI X (K := K_X8_full) [] [] dX8_undo_125 lv_X8_261 rm_X8_undo_X8_full ⟨by decide, by decide⟩ adA_id rfl rfl rfl (Nat.le_of_ble_eq_true rfl) rfl h (fun x3 s2 q4 h => ?_)
    exact g_iret X hr hlk dX8_undo_128 rfl ⟨_, rfl, q4, h⟩
  · have h := h.2 c1
    refine g_aload_n X 0 dX8_undo_101 rfl ?_
    refine g_getF X (f := 79) dX8_undo_102 lf_X8_31 rfl rfl rfl ?_
    refine g_iload_n X 1 dX8_undo_105 rfl ?_
    refine g_aload_n X 0 dX8_undo_106 rfl ?_
    refine g_getF X (f := 100) dX8_undo_107 lf_X8_95 rfl rfl rfl ?_
    refine g_iload_n X 1 dX8_undo_110 rfl ?_
    obtain ⟨q5, h⟩ := h
    refine g_iald X dX8_undo_111 rfl q5.1 q5.2 ?_
    refine g_iast X dX8_undo_112 rfl q5.1 q5.2 ?_
    refine g_iinc X (x := v1) (lv' := [(1, .int (iI (v1 + 1))), (0, .ref 72)]) 1 dX8_undo_113 rfl (by decide) rfl ?_
    refine g_goto X (tgt := 94) dX8_undo_116 (by decide) ?_
    exact g_sub (lv' := [(0, .ref 72), (1, .int (iI (v1 + 1)))]) [1, 0] rfl (h p l e s m args below meth c D cA ad X0 hr hlk)
theorem bX8_value_0 {v1 : Int} {σ : ASt} {Q : Int → ASt → Prop}  (h : EvI K_X8_refusal [.ref 72, .int (iI v1)] σ (fun x2 s1 => ((x2 = 0 → EvL K_X8_valueOf [.ref 72, .int (iI v1)] s1 (fun x6 s5 => Q x6 s5)) ∧ (x2 ≠ 0 → Q (-9223372036854775808) s1)))) : Wx K_X8_value (QL Q) 0 [(0, .ref 72), (1, .int (iI v1))] [] σ := by
  intro p l e s m args below meth c D cA ad X0 hr hlk
  have X : Cx p s m args c (adA ad) D cA ad RX8 cX8_value 2 := X0
  refine g_aload_n X 0 dX8_value_0 rfl ?_
  refine g_iload_n X 1 dX8_value_1 rfl ?_
  refine g_cVI X (K := K_X8_refusal) [.int (iI v1)] [] dX8_value_2 lv_X8_162 rm_X8_value_X8_refusal ⟨by decide, by decide⟩ adA_id rfl rfl rfl (Nat.le_of_ble_eq_true rfl) rfl h (fun x2 s1 q3 h => ?_)
  refine g_if_eq X (tgt := 14) dX8_value_5 (by decide) q3 (fun c4 => ?_) (fun c4 => ?_)
  · have h := h.1 c4
    refine g_aload_n X 0 dX8_value_14 rfl ?_
    refine g_iload_n X 1 dX8_value_15 rfl ?_
    refine g_cVL X (K := K_X8_valueOf) [.int (iI v1)] [] dX8_value_16 lv_X8_174 rm_X8_value_X8_valueOf ⟨by decide, by decide⟩ adA_id rfl rfl rfl (Nat.le_of_ble_eq_true rfl) rfl h (fun x6 s5 q7 h => ?_)
    exact g_lret X hr hlk dX8_value_19 ⟨_, rfl, q7, h⟩
  · have h := h.2 c4
    refine g_ldc2 X (z := (-9223372036854775808)) dX8_value_8 lc_X8_127 (by decide +kernel) ?_
    refine g_goto X (tgt := 19) dX8_value_11 (by decide) ?_
    exact g_lret X hr hlk dX8_value_19 ⟨_, rfl, (by omega), h⟩
theorem eX8_value {v1 : Int} {σ : ASt} {Q : Int → ASt → Prop}  (h : EvI K_X8_refusal [.ref 72, .int (iI v1)] σ (fun x2 s1 => ((x2 = 0 → EvL K_X8_valueOf [.ref 72, .int (iI v1)] s1 (fun x6 s5 => Q x6 s5)) ∧ (x2 ≠ 0 → Q (-9223372036854775808) s1)))) : EvL K_X8_value [.ref 72, .int (iI v1)] σ Q := Ev.of rfl (Nat.le_of_ble_eq_true rfl) rfl (bX8_value_0  h)
theorem bX8_ways_0 {v1 : Int} {v2 : Int} {v4 : Int} {v5 : Int} {σ : ASt} {Q : Int → ASt → Prop} (h32v4 : i32 v4) (h32v5 : i32 v5) (h : EvZ K_X8_isBase [.int (iI v1)] σ (fun s1 => EvZ K_X8_in [.long (lI v2), .long (lI 0), .long (lI 1000000000)] s1 (fun s2 => EvZ K_X8_in [.long (lI v4), .long (lI 1), .long (lI 9)] s2 (fun s3 => EvZ K_X8_in [.long (lI v5), .long (lI 0), .long (lI 1)] s3 (fun s4 => Wx K_X8_ways (QL Q) 52 [(0, .ref 72), (1, .int (iI v1)), (2, .long (lI v2)), (4, .int (iI v4)), (5, .int (iI v5)), (6, .long (lI 0)), (8, .int (iI 0))] [] s4) (fun s4 => Q (-9223372036854775808) s4)) (fun s3 => Q (-9223372036854775808) s3)) (fun s2 => Q (-9223372036854775808) s2)) (fun s1 => Q (-9223372036854775808) s1)) : Wx K_X8_ways (QL Q) 0 [(0, .ref 72), (1, .int (iI v1)), (2, .long (lI v2)), (4, .int (iI v4)), (5, .int (iI v5))] [] σ := by
  intro p l e s m args below meth c D cA ad X0 hr hlk
  have X : Cx p s m args c (adA ad) D cA ad RX8 cX8_ways 13 := X0
  refine g_iload_n X 1 dX8_ways_0 rfl ?_
  refine g_cSZ X (K := K_X8_isBase) [.int (iI v1)] [] dX8_ways_1 ls_X8_114 rm_X8_ways_X8_isBase ⟨by decide, by decide⟩ adA_id rfl (Nat.le_of_ble_eq_true rfl) rfl h (fun s1 h => ?_) (fun s1 h => ?_)
  · skip
    refine g_if_eq X (tgt := 42) dX8_ways_4 (by decide) (by omega) (fun hc => absurd hc (by decide)) (fun _ => ?_)
    refine g_lload_n X 2 dX8_ways_7 rfl ?_
    refine g_lconst X (z := 0) dX8_ways_8 (by decide +kernel) ?_
    refine g_ldc2 X (z := 1000000000) dX8_ways_9 lc_X8_108 (by decide +kernel) ?_
    refine g_cSZ X (K := K_X8_in) [.long (lI v2), .long (lI 0), .long (lI 1000000000)] [] dX8_ways_12 ls_X8_104 rm_X8_ways_X8_in ⟨by decide, by decide⟩ adA_id rfl (Nat.le_of_ble_eq_true rfl) rfl h (fun s2 h => ?_) (fun s2 h => ?_)
    · skip
      refine g_if_eq X (tgt := 42) dX8_ways_15 (by decide) (by omega) (fun hc => absurd hc (by decide)) (fun _ => ?_)
      refine g_iload X 3 dX8_ways_18 rfl ?_
      refine g_i2l X dX8_ways_20 h32v4 ?_
      refine g_lconst X (z := 1) dX8_ways_21 (by decide +kernel) ?_
      refine g_ldc2 X (z := 9) dX8_ways_22 lc_X8_201 (by decide +kernel) ?_
      refine g_cSZ X (K := K_X8_in) [.long (lI v4), .long (lI 1), .long (lI 9)] [] dX8_ways_25 ls_X8_104 rm_X8_ways_X8_in ⟨by decide, by decide⟩ adA_id rfl (Nat.le_of_ble_eq_true rfl) rfl h (fun s3 h => ?_) (fun s3 h => ?_)
      · skip
        refine g_if_eq X (tgt := 42) dX8_ways_28 (by decide) (by omega) (fun hc => absurd hc (by decide)) (fun _ => ?_)
        refine g_iload X 4 dX8_ways_31 rfl ?_
        refine g_i2l X dX8_ways_33 h32v5 ?_
        refine g_lconst X (z := 0) dX8_ways_34 (by decide +kernel) ?_
        refine g_lconst X (z := 1) dX8_ways_35 (by decide +kernel) ?_
        refine g_cSZ X (K := K_X8_in) [.long (lI v5), .long (lI 0), .long (lI 1)] [] dX8_ways_36 ls_X8_104 rm_X8_ways_X8_in ⟨by decide, by decide⟩ adA_id rfl (Nat.le_of_ble_eq_true rfl) rfl h (fun s4 h => ?_) (fun s4 h => ?_)
        · skip
          refine g_if_ne X (tgt := 46) dX8_ways_39 (by decide) (by omega) (fun _ => ?_) (fun hc => absurd hc (by decide))
          refine g_lconst X (z := 0) dX8_ways_46 (by decide +kernel) ?_
          refine g_lstore X (lv' := [(6, .long (lI 0)), (0, .ref 72), (1, .int (iI v1)), (2, .long (lI v2)), (4, .int (iI v4)), (5, .int (iI v5))]) dX8_ways_47 (by decide) rfl ?_
          refine g_iconst X dX8_ways_49 ?_
          refine g_istore X (lv' := [(8, .int (iI 0)), (6, .long (lI 0)), (0, .ref 72), (1, .int (iI v1)), (2, .long (lI v2)), (4, .int (iI v4)), (5, .int (iI v5))]) dX8_ways_50 (by decide) rfl ?_
          exact g_sub (lv' := [(0, .ref 72), (1, .int (iI v1)), (2, .long (lI v2)), (4, .int (iI v4)), (5, .int (iI v5)), (6, .long (lI 0)), (8, .int (iI 0))]) [2, 3, 4, 5, 6, 1, 0] rfl (h p l e s m args below meth c D cA ad X0 hr hlk)
        · skip
          refine g_if_ne X (tgt := 46) dX8_ways_39 (by decide) (by omega) (fun hc => absurd hc (by decide)) (fun _ => ?_)
          refine g_ldc2 X (z := (-9223372036854775808)) dX8_ways_42 lc_X8_127 (by decide +kernel) ?_
          exact g_lret X hr hlk dX8_ways_45 ⟨_, rfl, (by omega), h⟩
      · skip
        refine g_if_eq X (tgt := 42) dX8_ways_28 (by decide) (by omega) (fun _ => ?_) (fun hc => absurd hc (by decide))
        refine g_ldc2 X (z := (-9223372036854775808)) dX8_ways_42 lc_X8_127 (by decide +kernel) ?_
        exact g_lret X hr hlk dX8_ways_45 ⟨_, rfl, (by omega), h⟩
    · skip
      refine g_if_eq X (tgt := 42) dX8_ways_15 (by decide) (by omega) (fun _ => ?_) (fun hc => absurd hc (by decide))
      refine g_ldc2 X (z := (-9223372036854775808)) dX8_ways_42 lc_X8_127 (by decide +kernel) ?_
      exact g_lret X hr hlk dX8_ways_45 ⟨_, rfl, (by omega), h⟩
  · skip
    refine g_if_eq X (tgt := 42) dX8_ways_4 (by decide) (by omega) (fun _ => ?_) (fun hc => absurd hc (by decide))
    refine g_ldc2 X (z := (-9223372036854775808)) dX8_ways_42 lc_X8_127 (by decide +kernel) ?_
    exact g_lret X hr hlk dX8_ways_45 ⟨_, rfl, (by omega), h⟩
theorem eX8_ways {v1 : Int} {v2 : Int} {v4 : Int} {v5 : Int} {σ : ASt} {Q : Int → ASt → Prop} (h32v4 : i32 v4) (h32v5 : i32 v5) (h : EvZ K_X8_isBase [.int (iI v1)] σ (fun s1 => EvZ K_X8_in [.long (lI v2), .long (lI 0), .long (lI 1000000000)] s1 (fun s2 => EvZ K_X8_in [.long (lI v4), .long (lI 1), .long (lI 9)] s2 (fun s3 => EvZ K_X8_in [.long (lI v5), .long (lI 0), .long (lI 1)] s3 (fun s4 => Wx K_X8_ways (QL Q) 52 [(0, .ref 72), (1, .int (iI v1)), (2, .long (lI v2)), (4, .int (iI v4)), (5, .int (iI v5)), (6, .long (lI 0)), (8, .int (iI 0))] [] s4) (fun s4 => Q (-9223372036854775808) s4)) (fun s3 => Q (-9223372036854775808) s3)) (fun s2 => Q (-9223372036854775808) s2)) (fun s1 => Q (-9223372036854775808) s1)) : EvL K_X8_ways [.ref 72, .int (iI v1), .long (lI v2), .int (iI v4), .int (iI v5)] σ Q := Ev.of rfl (Nat.le_of_ble_eq_true rfl) rfl (bX8_ways_0 h32v4 h32v5 h)
theorem bX8_ways_52 {v1 : Int} {v2 : Int} {v4 : Int} {v5 : Int} {v6 : Int} {v8 : Int} {σ : ASt} {Q : Int → ASt → Prop} (h32v4 : i32 v4) (h32v8 : i32 v8) (h : ((0 : Int) ≤ v1 ∧ v1 < 3) ∧ i32 ((gI σ 75 v1)) ∧ (((gI σ 75 v1) ≤ v8 → Wx K_X8_ways (QL Q) 121 [(0, .ref 72), (1, .int (iI v1)), (4, .int (iI v4)), (5, .int (iI v5)), (6, .long (lI v6)), (8, .int (iI ((gI (sI (sL (sL (sI σ 72 15 1) 83 0 v2) 84 0 1) 85 0 0) 75 v1) - 1)))] [] (sI (sL (sL (sI σ 72 15 1) 83 0 v2) 84 0 1) 85 0 0)) ∧ (v8 < (gI σ 75 v1) → EvL K_X8_worth [.ref 72, .int (iI v1), .int (iI v8)] σ (fun x5 s4 => Wx K_X8_ways (QL Q) 52 [(0, .ref 72), (1, .int (iI v1)), (2, .long (lI v2)), (4, .int (iI v4)), (5, .int (iI v5)), (6, .long (lI (v6 + (v4 * x5)))), (8, .int (iI (v8 + 1)))] [] s4)))) : Wx K_X8_ways (QL Q) 52 [(0, .ref 72), (1, .int (iI v1)), (2, .long (lI v2)), (4, .int (iI v4)), (5, .int (iI v5)), (6, .long (lI v6)), (8, .int (iI v8))] [] σ := by
  intro p l e s m args below meth c D cA ad X0 hr hlk
  have X : Cx p s m args c (adA ad) D cA ad RX8 cX8_ways 13 := X0
  refine g_iload X 6 dX8_ways_52 rfl ?_
  refine g_aload_n X 0 dX8_ways_54 rfl ?_
  refine g_getF X (f := 75) dX8_ways_55 lf_X8_18 rfl rfl rfl ?_
  refine g_iload_n X 1 dX8_ways_58 rfl ?_
  obtain ⟨q1, h⟩ := h
  refine g_iald X dX8_ways_59 rfl q1.1 q1.2 ?_
  obtain ⟨q2, h⟩ := h
  refine g_icmp_ge X (tgt := 85) dX8_ways_60 (by decide) h32v8 q2 (fun c3 => ?_) (fun c3 => ?_)
  · have h := h.1 c3
    refine g_aload_n X 0 dX8_ways_85 rfl ?_
    refine g_iconst X dX8_ways_86 ?_
    refine g_putI X (j := 15) (z := 15) dX8_ways_87 lp_X8_222 rfl rfl rfl ?_
    refine g_aload_n X 0 dX8_ways_90 rfl ?_
    refine g_getF X (f := 83) dX8_ways_91 lf_X8_43 rfl rfl rfl ?_
    refine g_iconst X dX8_ways_94 ?_
    refine g_lload_n X 2 dX8_ways_95 rfl ?_
    refine g_last X dX8_ways_96 rfl (by omega) (by omega) ?_
    refine g_aload_n X 0 dX8_ways_97 rfl ?_
    refine g_getF X (f := 84) dX8_ways_98 lf_X8_46 rfl rfl rfl ?_
    refine g_iconst X dX8_ways_101 ?_
    refine g_lconst X (z := 1) dX8_ways_102 (by decide +kernel) ?_
    refine g_last X dX8_ways_103 rfl (by omega) (by omega) ?_
    refine g_aload_n X 0 dX8_ways_104 rfl ?_
    refine g_getF X (f := 85) dX8_ways_105 lf_X8_49 rfl rfl rfl ?_
    refine g_iconst X dX8_ways_108 ?_
    refine g_iconst X dX8_ways_109 ?_
    refine g_iast X dX8_ways_110 rfl (by omega) (by omega) ?_
    refine g_aload_n X 0 dX8_ways_111 rfl ?_
    refine g_getF X (f := 75) dX8_ways_112 lf_X8_18 rfl rfl rfl ?_
    refine g_iload_n X 1 dX8_ways_115 rfl ?_
    refine g_iald X dX8_ways_116 rfl q1.1 q1.2 ?_
    refine g_iconst X dX8_ways_117 ?_
    refine g_isub X dX8_ways_118 ?_
    refine g_istore X (lv' := [(8, .int (iI ((gI (sI (sL (sL (sI σ 72 15 1) 83 0 v2) 84 0 1) 85 0 0) 75 v1) - 1))), (0, .ref 72), (1, .int (iI v1)), (2, .long (lI v2)), (4, .int (iI v4)), (5, .int (iI v5)), (6, .long (lI v6))]) dX8_ways_119 (by decide) rfl ?_
    exact g_sub (lv' := [(0, .ref 72), (1, .int (iI v1)), (4, .int (iI v4)), (5, .int (iI v5)), (6, .long (lI v6)), (8, .int (iI ((gI (sI (sL (sL (sI σ 72 15 1) 83 0 v2) 84 0 1) 85 0 0) 75 v1) - 1)))]) [1, 2, 4, 5, 6, 0] rfl (h p l e s m args below meth c D cA ad X0 hr hlk)
  · have h := h.2 c3
    refine g_lload X 5 dX8_ways_63 rfl ?_
    refine g_iload X 3 dX8_ways_65 rfl ?_
    refine g_i2l X dX8_ways_67 h32v4 ?_
    refine g_aload_n X 0 dX8_ways_68 rfl ?_
    refine g_iload_n X 1 dX8_ways_69 rfl ?_
    refine g_iload X 6 dX8_ways_70 rfl ?_
    refine g_cVL X (K := K_X8_worth) [.int (iI v1), .int (iI v8)] [.long (lI v4), .long (lI v6)] dX8_ways_72 lv_X8_129 rm_X8_ways_X8_worth ⟨by decide, by decide⟩ adA_id rfl rfl rfl (Nat.le_of_ble_eq_true rfl) rfl h (fun x5 s4 q6 h => ?_)
    refine g_lmul X dX8_ways_75 ?_
    refine g_ladd X dX8_ways_76 ?_
    refine g_lstore X (lv' := [(6, .long (lI (v6 + (v4 * x5)))), (0, .ref 72), (1, .int (iI v1)), (2, .long (lI v2)), (4, .int (iI v4)), (5, .int (iI v5)), (8, .int (iI v8))]) dX8_ways_77 (by decide) rfl ?_
    refine g_iinc X (x := v8) (lv' := [(8, .int (iI (v8 + 1))), (6, .long (lI (v6 + (v4 * x5)))), (0, .ref 72), (1, .int (iI v1)), (2, .long (lI v2)), (4, .int (iI v4)), (5, .int (iI v5))]) 6 dX8_ways_79 rfl (by decide) rfl ?_
    refine g_goto X (tgt := 52) dX8_ways_82 (by decide) ?_
    exact g_sub (lv' := [(0, .ref 72), (1, .int (iI v1)), (2, .long (lI v2)), (4, .int (iI v4)), (5, .int (iI v5)), (6, .long (lI (v6 + (v4 * x5)))), (8, .int (iI (v8 + 1)))]) [2, 3, 4, 5, 6, 1, 0] rfl (h p l e s m args below meth c D cA ad X0 hr hlk)
theorem bX8_ways_121 {v1 : Int} {v4 : Int} {v5 : Int} {v6 : Int} {v8 : Int} {σ : ASt} {Q : Int → ASt → Prop} (h32v4 : i32 v4) (h32v5 : i32 v5) (h32v8 : i32 v8) (h : ((v8 < 0 → i32 ((gI σ 72 15)) ∧ (((gI σ 72 15) ≠ 0 → ((v5 ≠ 0 → i32 ((gI σ 85 0)) ∧ Q (gI σ 85 0) σ) ∧ (v5 = 0 → Q (lI ((gL σ 84 0))).toInt σ))) ∧ ((gI σ 72 15) = 0 → ((v5 ≠ 0 → Q (-1) σ) ∧ (v5 = 0 → Q 0 σ))))) ∧ (0 ≤ v8 → EvL K_X8_worth [.ref 72, .int (iI v1), .int (iI v8)] σ (fun x8 s7 => Wx K_X8_ways (QL Q) 154 [(0, .ref 72), (1, .int (iI v1)), (4, .int (iI v4)), (5, .int (iI v5)), (6, .long (lI (v6 - (v4 * x8)))), (8, .int (iI v8)), (9, .long (lI x8)), (11, .int (iI 0))] [] (sI s7 72 19 0))))) : Wx K_X8_ways (QL Q) 121 [(0, .ref 72), (1, .int (iI v1)), (4, .int (iI v4)), (5, .int (iI v5)), (6, .long (lI v6)), (8, .int (iI v8))] [] σ := by
  intro p l e s m args below meth c D cA ad X0 hr hlk
  have X : Cx p s m args c (adA ad) D cA ad RX8 cX8_ways 13 := X0
  refine g_iload X 5 dX8_ways_121 rfl ?_
  refine g_if_lt X (tgt := 356) dX8_ways_123 (by decide) h32v8 (fun c1 => ?_) (fun c1 => ?_)
  · have h := h.1 c1
    refine g_aload_n X 0 dX8_ways_356 rfl ?_
    refine g_getI X (z := 15) dX8_ways_357 lf_X8_222 rfl rfl rfl ?_
    obtain ⟨q2, h⟩ := h
    refine g_if_ne X (tgt := 378) dX8_ways_360 (by decide) q2 (fun c3 => ?_) (fun c3 => ?_)
    · have h := h.1 c3
      refine g_iload X 3 dX8_ways_378 rfl ?_
      refine g_if_ne X (tgt := 392) dX8_ways_380 (by decide) h32v5 (fun c4 => ?_) (fun c4 => ?_)
      · have h := h.1 c4
        refine g_aload_n X 0 dX8_ways_392 rfl ?_
        refine g_getF X (f := 85) dX8_ways_393 lf_X8_49 rfl rfl rfl ?_
        refine g_iconst X dX8_ways_396 ?_
        refine g_iald X dX8_ways_397 rfl (by omega) (by omega) ?_
        obtain ⟨q5, h⟩ := h
        refine g_i2l X dX8_ways_398 q5 ?_
        exact g_lret X hr hlk dX8_ways_399 ⟨_, rfl, (by have := q5; omega), h⟩
      · have h := h.2 c4
        refine g_aload_n X 0 dX8_ways_383 rfl ?_
        refine g_getF X (f := 84) dX8_ways_384 lf_X8_46 rfl rfl rfl ?_
        refine g_iconst X dX8_ways_387 ?_
        refine g_lald X dX8_ways_388 rfl (by omega) (by omega) ?_
        refine g_goto X (tgt := 399) dX8_ways_389 (by decide) ?_
        exact g_lret X hr hlk dX8_ways_399 ⟨(lI ((gL σ 84 0))).toInt, by rw [lI_of], i64_of _, h⟩
    · have h := h.2 c3
      refine g_iload X 3 dX8_ways_363 rfl ?_
      refine g_if_ne X (tgt := 372) dX8_ways_365 (by decide) h32v5 (fun c6 => ?_) (fun c6 => ?_)
      · have h := h.1 c6
        refine g_ldc2 X (z := (-1)) dX8_ways_372 lc_X8_207 (by decide +kernel) ?_
        refine g_goto X (tgt := 399) dX8_ways_375 (by decide) ?_
        exact g_lret X hr hlk dX8_ways_399 ⟨_, rfl, (by omega), h⟩
      · have h := h.2 c6
        refine g_lconst X (z := 0) dX8_ways_368 (by decide +kernel) ?_
        refine g_goto X (tgt := 399) dX8_ways_369 (by decide) ?_
        exact g_lret X hr hlk dX8_ways_399 ⟨_, rfl, (by omega), h⟩
  · have h := h.2 c1
    refine g_aload_n X 0 dX8_ways_126 rfl ?_
    refine g_iload_n X 1 dX8_ways_127 rfl ?_
    refine g_iload X 5 dX8_ways_128 rfl ?_
    refine g_cVL X (K := K_X8_worth) [.int (iI v1), .int (iI v8)] [] dX8_ways_130 lv_X8_129 rm_X8_ways_X8_worth ⟨by decide, by decide⟩ adA_id rfl rfl rfl (Nat.le_of_ble_eq_true rfl) rfl h (fun x8 s7 q9 h => ?_)
    refine g_lstore X (lv' := [(9, .long (lI x8)), (0, .ref 72), (1, .int (iI v1)), (4, .int (iI v4)), (5, .int (iI v5)), (6, .long (lI v6)), (8, .int (iI v8))]) dX8_ways_133 (by decide) rfl ?_
    refine g_lload X 5 dX8_ways_135 rfl ?_
    refine g_iload X 3 dX8_ways_137 rfl ?_
    refine g_i2l X dX8_ways_139 h32v4 ?_
    refine g_lload X 0 dX8_ways_140 rfl ?_
    refine g_lmul X dX8_ways_142 ?_
    refine g_lsub X dX8_ways_143 ?_
    refine g_lstore X (lv' := [(6, .long (lI (v6 - (v4 * x8)))), (9, .long (lI x8)), (0, .ref 72), (1, .int (iI v1)), (4, .int (iI v4)), (5, .int (iI v5)), (8, .int (iI v8))]) dX8_ways_144 (by decide) rfl ?_
    refine g_aload_n X 2 dX8_ways_146 rfl ?_
    refine g_iconst X dX8_ways_147 ?_
    refine g_putI X (j := 19) (z := 19) dX8_ways_148 lp_X8_219 rfl rfl rfl ?_
    refine g_iconst X dX8_ways_151 ?_
    refine g_istore X (lv' := [(11, .int (iI 0)), (6, .long (lI (v6 - (v4 * x8)))), (9, .long (lI x8)), (0, .ref 72), (1, .int (iI v1)), (4, .int (iI v4)), (5, .int (iI v5)), (8, .int (iI v8))]) dX8_ways_152 (by decide) rfl ?_
    exact g_sub (lv' := [(0, .ref 72), (1, .int (iI v1)), (4, .int (iI v4)), (5, .int (iI v5)), (6, .long (lI (v6 - (v4 * x8)))), (8, .int (iI v8)), (9, .long (lI x8)), (11, .int (iI 0))]) [3, 4, 5, 6, 1, 7, 2, 0] rfl (h p l e s m args below meth c D cA ad X0 hr hlk)
theorem bX8_ways_154 {v1 : Int} {v4 : Int} {v5 : Int} {v6 : Int} {v8 : Int} {v9 : Int} {v11 : Int} {σ : ASt} {Q : Int → ASt → Prop} (h32v11 : i32 v11) (h : ((16384 ≤ v11 → Wx K_X8_ways (QL Q) 179 [(0, .ref 72), (1, .int (iI v1)), (4, .int (iI v4)), (5, .int (iI v5)), (6, .long (lI v6)), (8, .int (iI v8)), (9, .long (lI v9)), (11, .int (iI 0))] [] σ) ∧ (v11 < 16384 → ((0 : Int) ≤ v11 ∧ v11 < 16384) ∧ Wx K_X8_ways (QL Q) 154 [(0, .ref 72), (1, .int (iI v1)), (4, .int (iI v4)), (5, .int (iI v5)), (6, .long (lI v6)), (8, .int (iI v8)), (9, .long (lI v9)), (11, .int (iI (v11 + 1)))] [] (sI σ 86 v11 0)))) : Wx K_X8_ways (QL Q) 154 [(0, .ref 72), (1, .int (iI v1)), (4, .int (iI v4)), (5, .int (iI v5)), (6, .long (lI v6)), (8, .int (iI v8)), (9, .long (lI v9)), (11, .int (iI v11))] [] σ := by
  intro p l e s m args below meth c D cA ad X0 hr hlk
  have X : Cx p s m args c (adA ad) D cA ad RX8 cX8_ways 13 := X0
  refine g_iload X 7 dX8_ways_154 rfl ?_
  refine g_sipush X dX8_ways_156 (by decide +kernel) ?_
  refine g_icmp_ge X (tgt := 176) dX8_ways_159 (by decide) h32v11 (by omega) (fun c1 => ?_) (fun c1 => ?_)
  · have h := h.1 c1
    refine g_iconst X dX8_ways_176 ?_
    refine g_istore X (lv' := [(11, .int (iI 0)), (0, .ref 72), (1, .int (iI v1)), (4, .int (iI v4)), (5, .int (iI v5)), (6, .long (lI v6)), (8, .int (iI v8)), (9, .long (lI v9))]) dX8_ways_177 (by decide) rfl ?_
    exact g_sub (lv' := [(0, .ref 72), (1, .int (iI v1)), (4, .int (iI v4)), (5, .int (iI v5)), (6, .long (lI v6)), (8, .int (iI v8)), (9, .long (lI v9)), (11, .int (iI 0))]) [1, 2, 3, 4, 5, 6, 7, 0] rfl (h p l e s m args below meth c D cA ad X0 hr hlk)
  · have h := h.2 c1
    refine g_aload_n X 0 dX8_ways_162 rfl ?_
    refine g_getF X (f := 86) dX8_ways_163 lf_X8_52 rfl rfl rfl ?_
    refine g_iload X 7 dX8_ways_166 rfl ?_
    refine g_iconst X dX8_ways_168 ?_
    obtain ⟨q2, h⟩ := h
    refine g_iast X dX8_ways_169 rfl q2.1 q2.2 ?_
    refine g_iinc X (x := v11) (lv' := [(11, .int (iI (v11 + 1))), (0, .ref 72), (1, .int (iI v1)), (4, .int (iI v4)), (5, .int (iI v5)), (6, .long (lI v6)), (8, .int (iI v8)), (9, .long (lI v9))]) 7 dX8_ways_170 rfl (by decide) rfl ?_
    refine g_goto X (tgt := 154) dX8_ways_173 (by decide) ?_
    exact g_sub (lv' := [(0, .ref 72), (1, .int (iI v1)), (4, .int (iI v4)), (5, .int (iI v5)), (6, .long (lI v6)), (8, .int (iI v8)), (9, .long (lI v9)), (11, .int (iI (v11 + 1)))]) [1, 2, 3, 4, 5, 6, 7, 0] rfl (h p l e s m args below meth c D cA ad X0 hr hlk)
theorem bX8_ways_179 {v1 : Int} {v4 : Int} {v5 : Int} {v6 : Int} {v8 : Int} {v9 : Int} {v11 : Int} {σ : ASt} {Q : Int → ASt → Prop} (h32v11 : i32 v11) (h : i32 ((gI σ 72 15)) ∧ (((gI σ 72 15) ≤ v11 → Wx K_X8_ways (QL Q) 293 [(0, .ref 72), (1, .int (iI v1)), (4, .int (iI v4)), (5, .int (iI v5)), (6, .long (lI v6)), (8, .int (iI v8)), (11, .int (iI 0))] [] (sI σ 72 15 (gI σ 72 19))) ∧ (v11 < (gI σ 72 15) → Wx K_X8_ways (QL Q) 191 [(0, .ref 72), (1, .int (iI v1)), (4, .int (iI v4)), (5, .int (iI v5)), (6, .long (lI v6)), (8, .int (iI v8)), (9, .long (lI v9)), (11, .int (iI v11)), (12, .int (iI 0))] [] σ))) : Wx K_X8_ways (QL Q) 179 [(0, .ref 72), (1, .int (iI v1)), (4, .int (iI v4)), (5, .int (iI v5)), (6, .long (lI v6)), (8, .int (iI v8)), (9, .long (lI v9)), (11, .int (iI v11))] [] σ := by
  intro p l e s m args below meth c D cA ad X0 hr hlk
  have X : Cx p s m args c (adA ad) D cA ad RX8 cX8_ways 13 := X0
  refine g_iload X 7 dX8_ways_179 rfl ?_
  refine g_aload_n X 0 dX8_ways_181 rfl ?_
  refine g_getI X (z := 15) dX8_ways_182 lf_X8_222 rfl rfl rfl ?_
  obtain ⟨q1, h⟩ := h
  refine g_icmp_ge X (tgt := 282) dX8_ways_185 (by decide) h32v11 q1 (fun c2 => ?_) (fun c2 => ?_)
  · have h := h.1 c2
    refine g_aload_n X 0 dX8_ways_282 rfl ?_
    refine g_aload_n X 0 dX8_ways_283 rfl ?_
    refine g_getI X (z := 19) dX8_ways_284 lf_X8_219 rfl rfl rfl ?_
    refine g_putI X (j := 15) (z := 15) dX8_ways_287 lp_X8_222 rfl rfl rfl ?_
    refine g_iconst X dX8_ways_290 ?_
    refine g_istore X (lv' := [(11, .int (iI 0)), (0, .ref 72), (1, .int (iI v1)), (4, .int (iI v4)), (5, .int (iI v5)), (6, .long (lI v6)), (8, .int (iI v8)), (9, .long (lI v9))]) dX8_ways_291 (by decide) rfl ?_
    exact g_sub (lv' := [(0, .ref 72), (1, .int (iI v1)), (4, .int (iI v4)), (5, .int (iI v5)), (6, .long (lI v6)), (8, .int (iI v8)), (11, .int (iI 0))]) [1, 2, 3, 4, 5, 6, 0] rfl (h p l e s m args below meth c D cA ad X0 hr hlk)
  · have h := h.2 c2
    refine g_iconst X dX8_ways_188 ?_
    refine g_istore X (lv' := [(12, .int (iI 0)), (0, .ref 72), (1, .int (iI v1)), (4, .int (iI v4)), (5, .int (iI v5)), (6, .long (lI v6)), (8, .int (iI v8)), (9, .long (lI v9)), (11, .int (iI v11))]) dX8_ways_189 (by decide) rfl ?_
    exact g_sub (lv' := [(0, .ref 72), (1, .int (iI v1)), (4, .int (iI v4)), (5, .int (iI v5)), (6, .long (lI v6)), (8, .int (iI v8)), (9, .long (lI v9)), (11, .int (iI v11)), (12, .int (iI 0))]) [1, 2, 3, 4, 5, 6, 7, 8, 0] rfl (h p l e s m args below meth c D cA ad X0 hr hlk)
theorem bX8_ways_293 {v1 : Int} {v4 : Int} {v5 : Int} {v6 : Int} {v8 : Int} {v11 : Int} {σ : ASt} {Q : Int → ASt → Prop} (h32v11 : i32 v11) (h : i32 ((gI σ 72 15)) ∧ (((gI σ 72 15) ≤ v11 → Wx K_X8_ways (QL Q) 121 [(0, .ref 72), (1, .int (iI v1)), (4, .int (iI v4)), (5, .int (iI v5)), (6, .long (lI v6)), (8, .int (iI (v8 + (-1))))] [] σ) ∧ (v11 < (gI σ 72 15) → ((0 : Int) ≤ v11 ∧ v11 < 16384) ∧ Wx K_X8_ways (QL Q) 293 [(0, .ref 72), (1, .int (iI v1)), (4, .int (iI v4)), (5, .int (iI v5)), (6, .long (lI v6)), (8, .int (iI v8)), (11, .int (iI (v11 + 1)))] [] (sI (sL (sL σ 83 v11 (gL σ 87 v11)) 84 v11 (gL (sL σ 83 v11 (gL σ 87 v11)) 88 v11)) 85 v11 (gI (sL (sL σ 83 v11 (gL σ 87 v11)) 84 v11 (gL (sL σ 83 v11 (gL σ 87 v11)) 88 v11)) 89 v11))))) : Wx K_X8_ways (QL Q) 293 [(0, .ref 72), (1, .int (iI v1)), (4, .int (iI v4)), (5, .int (iI v5)), (6, .long (lI v6)), (8, .int (iI v8)), (11, .int (iI v11))] [] σ := by
  intro p l e s m args below meth c D cA ad X0 hr hlk
  have X : Cx p s m args c (adA ad) D cA ad RX8 cX8_ways 13 := X0
  refine g_iload X 6 dX8_ways_293 rfl ?_
  refine g_aload_n X 0 dX8_ways_295 rfl ?_
  refine g_getI X (z := 15) dX8_ways_296 lf_X8_222 rfl rfl rfl ?_
  obtain ⟨q1, h⟩ := h
  refine g_icmp_ge X (tgt := 350) dX8_ways_299 (by decide) h32v11 q1 (fun c2 => ?_) (fun c2 => ?_)
  · have h := h.1 c2
    refine g_iinc X (x := v8) (lv' := [(8, .int (iI (v8 + (-1)))), (0, .ref 72), (1, .int (iI v1)), (4, .int (iI v4)), (5, .int (iI v5)), (6, .long (lI v6)), (11, .int (iI v11))]) 5 dX8_ways_350 rfl (by decide) rfl ?_
    refine g_goto X (tgt := 121) dX8_ways_353 (by decide) ?_
    exact g_sub (lv' := [(0, .ref 72), (1, .int (iI v1)), (4, .int (iI v4)), (5, .int (iI v5)), (6, .long (lI v6)), (8, .int (iI (v8 + (-1))))]) [1, 2, 3, 4, 5, 0] rfl (h p l e s m args below meth c D cA ad X0 hr hlk)
  · have h := h.2 c2
    refine g_aload_n X 0 dX8_ways_302 rfl ?_
    refine g_getF X (f := 83) dX8_ways_303 lf_X8_43 rfl rfl rfl ?_
    refine g_iload X 6 dX8_ways_306 rfl ?_
    refine g_aload_n X 0 dX8_ways_308 rfl ?_
    refine g_getF X (f := 87) dX8_ways_309 lf_X8_55 rfl rfl rfl ?_
    refine g_iload X 6 dX8_ways_312 rfl ?_
    obtain ⟨q3, h⟩ := h
    refine g_lald X dX8_ways_314 rfl q3.1 q3.2 ?_
    refine g_last X dX8_ways_315 rfl q3.1 q3.2 ?_
    refine g_aload_n X 0 dX8_ways_316 rfl ?_
    refine g_getF X (f := 84) dX8_ways_317 lf_X8_46 rfl rfl rfl ?_
    refine g_iload X 6 dX8_ways_320 rfl ?_
    refine g_aload_n X 0 dX8_ways_322 rfl ?_
    refine g_getF X (f := 88) dX8_ways_323 lf_X8_58 rfl rfl rfl ?_
    refine g_iload X 6 dX8_ways_326 rfl ?_
    refine g_lald X dX8_ways_328 rfl q3.1 q3.2 ?_
    refine g_last X dX8_ways_329 rfl q3.1 q3.2 ?_
    refine g_aload_n X 0 dX8_ways_330 rfl ?_
    refine g_getF X (f := 85) dX8_ways_331 lf_X8_49 rfl rfl rfl ?_
    refine g_iload X 6 dX8_ways_334 rfl ?_
    refine g_aload_n X 0 dX8_ways_336 rfl ?_
    refine g_getF X (f := 89) dX8_ways_337 lf_X8_61 rfl rfl rfl ?_
    refine g_iload X 6 dX8_ways_340 rfl ?_
    refine g_iald X dX8_ways_342 rfl q3.1 q3.2 ?_
    refine g_iast X dX8_ways_343 rfl q3.1 q3.2 ?_
    refine g_iinc X (x := v11) (lv' := [(11, .int (iI (v11 + 1))), (0, .ref 72), (1, .int (iI v1)), (4, .int (iI v4)), (5, .int (iI v5)), (6, .long (lI v6)), (8, .int (iI v8))]) 6 dX8_ways_344 rfl (by decide) rfl ?_
    refine g_goto X (tgt := 293) dX8_ways_347 (by decide) ?_
    exact g_sub (lv' := [(0, .ref 72), (1, .int (iI v1)), (4, .int (iI v4)), (5, .int (iI v5)), (6, .long (lI v6)), (8, .int (iI v8)), (11, .int (iI (v11 + 1)))]) [1, 2, 3, 4, 5, 6, 0] rfl (h p l e s m args below meth c D cA ad X0 hr hlk)
theorem bX8_ways_191 {v1 : Int} {v4 : Int} {v5 : Int} {v6 : Int} {v8 : Int} {v9 : Int} {v11 : Int} {v12 : Int} {σ : ASt} {Q : Int → ASt → Prop} (h32v12 : i32 v12) (h32v4 : i32 v4) (h64v6 : i64 v6) (h : ((v4 < v12 → Wx K_X8_ways (QL Q) 179 [(0, .ref 72), (1, .int (iI v1)), (4, .int (iI v4)), (5, .int (iI v5)), (6, .long (lI v6)), (8, .int (iI v8)), (9, .long (lI v9)), (11, .int (iI (v11 + 1)))] [] σ) ∧ (v12 ≤ v4 → ((0 : Int) ≤ v11 ∧ v11 < 16384) ∧ i64 ((gL σ 83 v11)) ∧ i64 ((v12 * v9)) ∧ (((gL σ 83 v11) < (v12 * v9) → Wx K_X8_ways (QL Q) 179 [(0, .ref 72), (1, .int (iI v1)), (4, .int (iI v4)), (5, .int (iI v5)), (6, .long (lI v6)), (8, .int (iI v8)), (9, .long (lI v9)), (11, .int (iI (v11 + 1)))] [] σ) ∧ ((v12 * v9) ≤ (gL σ 83 v11) → i64 (((gL σ 83 v11) - (v12 * v9))) ∧ ((v6 < ((gL σ 83 v11) - (v12 * v9)) → Wx K_X8_ways (QL Q) 191 [(0, .ref 72), (1, .int (iI v1)), (4, .int (iI v4)), (5, .int (iI v5)), (6, .long (lI v6)), (8, .int (iI v8)), (9, .long (lI v9)), (11, .int (iI v11)), (12, .int (iI (v12 + 1)))] [] σ) ∧ (((gL σ 83 v11) - (v12 * v9)) ≤ v6 → EvV K_X8_leaves [.ref 72, .long (lI ((gL σ 83 v11) - (v12 * v9))), .long (lI (gL σ 84 v11)), .int (iI ((gI σ 85 v11) + v12))] σ (fun s8 => Wx K_X8_ways (QL Q) 191 [(0, .ref 72), (1, .int (iI v1)), (4, .int (iI v4)), (5, .int (iI v5)), (6, .long (lI v6)), (8, .int (iI v8)), (9, .long (lI v9)), (11, .int (iI v11)), (12, .int (iI (v12 + 1)))] [] s8)))))))) : Wx K_X8_ways (QL Q) 191 [(0, .ref 72), (1, .int (iI v1)), (4, .int (iI v4)), (5, .int (iI v5)), (6, .long (lI v6)), (8, .int (iI v8)), (9, .long (lI v9)), (11, .int (iI v11)), (12, .int (iI v12))] [] σ := by
  intro p l e s m args below meth c D cA ad X0 hr hlk
  have X : Cx p s m args c (adA ad) D cA ad RX8 cX8_ways 13 := X0
  refine g_iload X 8 dX8_ways_191 rfl ?_
  refine g_iload X 2 dX8_ways_193 rfl ?_
  refine g_icmp_gt X (tgt := 276) dX8_ways_195 (by decide) h32v12 h32v4 (fun c1 => ?_) (fun c1 => ?_)
  · have h := h.1 c1
    refine g_iinc X (x := v11) (lv' := [(11, .int (iI (v11 + 1))), (0, .ref 72), (1, .int (iI v1)), (4, .int (iI v4)), (5, .int (iI v5)), (6, .long (lI v6)), (8, .int (iI v8)), (9, .long (lI v9)), (12, .int (iI v12))]) 7 dX8_ways_276 rfl (by decide) rfl ?_
    refine g_goto X (tgt := 179) dX8_ways_279 (by decide) ?_
    exact g_sub (lv' := [(0, .ref 72), (1, .int (iI v1)), (4, .int (iI v4)), (5, .int (iI v5)), (6, .long (lI v6)), (8, .int (iI v8)), (9, .long (lI v9)), (11, .int (iI (v11 + 1)))]) [1, 2, 3, 4, 5, 6, 7, 0] rfl (h p l e s m args below meth c D cA ad X0 hr hlk)
  · have h := h.2 c1
    refine g_aload_n X 0 dX8_ways_198 rfl ?_
    refine g_getF X (f := 83) dX8_ways_199 lf_X8_43 rfl rfl rfl ?_
    refine g_iload X 7 dX8_ways_202 rfl ?_
    obtain ⟨q2, h⟩ := h
    refine g_lald X dX8_ways_204 rfl q2.1 q2.2 ?_
    refine g_iload X 8 dX8_ways_205 rfl ?_
    refine g_i2l X dX8_ways_207 h32v12 ?_
    refine g_lload X 6 dX8_ways_208 rfl ?_
    refine g_lmul X dX8_ways_210 ?_
    obtain ⟨q3, h⟩ := h
    obtain ⟨q4, h⟩ := h
    refine g_lc_lt X (tgt := 276) dX8_ways_211 dX8_ways_212 (by decide) q3 q4 (fun c5 => ?_) (fun c5 => ?_)
    · have h := h.1 c5
      refine g_iinc X (x := v11) (lv' := [(11, .int (iI (v11 + 1))), (0, .ref 72), (1, .int (iI v1)), (4, .int (iI v4)), (5, .int (iI v5)), (6, .long (lI v6)), (8, .int (iI v8)), (9, .long (lI v9)), (12, .int (iI v12))]) 7 dX8_ways_276 rfl (by decide) rfl ?_
      refine g_goto X (tgt := 179) dX8_ways_279 (by decide) ?_
      exact g_sub (lv' := [(0, .ref 72), (1, .int (iI v1)), (4, .int (iI v4)), (5, .int (iI v5)), (6, .long (lI v6)), (8, .int (iI v8)), (9, .long (lI v9)), (11, .int (iI (v11 + 1)))]) [1, 2, 3, 4, 5, 6, 7, 0] rfl (h p l e s m args below meth c D cA ad X0 hr hlk)
    · have h := h.2 c5
      refine g_aload_n X 0 dX8_ways_215 rfl ?_
      refine g_getF X (f := 83) dX8_ways_216 lf_X8_43 rfl rfl rfl ?_
      refine g_iload X 7 dX8_ways_219 rfl ?_
      refine g_lald X dX8_ways_221 rfl q2.1 q2.2 ?_
      refine g_iload X 8 dX8_ways_222 rfl ?_
      refine g_i2l X dX8_ways_224 h32v12 ?_
      refine g_lload X 6 dX8_ways_225 rfl ?_
      refine g_lmul X dX8_ways_227 ?_
      refine g_lsub X dX8_ways_228 ?_
      refine g_lload X 4 dX8_ways_229 rfl ?_
      obtain ⟨q6, h⟩ := h
      refine g_lc_gt X (tgt := 270) dX8_ways_231 dX8_ways_232 (by decide) q6 h64v6 (fun c7 => ?_) (fun c7 => ?_)
      · have h := h.1 c7
        refine g_iinc X (x := v12) (lv' := [(12, .int (iI (v12 + 1))), (0, .ref 72), (1, .int (iI v1)), (4, .int (iI v4)), (5, .int (iI v5)), (6, .long (lI v6)), (8, .int (iI v8)), (9, .long (lI v9)), (11, .int (iI v11))]) 8 dX8_ways_270 rfl (by decide) rfl ?_
        refine g_goto X (tgt := 191) dX8_ways_273 (by decide) ?_
        exact g_sub (lv' := [(0, .ref 72), (1, .int (iI v1)), (4, .int (iI v4)), (5, .int (iI v5)), (6, .long (lI v6)), (8, .int (iI v8)), (9, .long (lI v9)), (11, .int (iI v11)), (12, .int (iI (v12 + 1)))]) [1, 2, 3, 4, 5, 6, 7, 8, 0] rfl (h p l e s m args below meth c D cA ad X0 hr hlk)
      · have h := h.2 c7
        refine g_aload_n X 0 dX8_ways_235 rfl ?_
        refine g_aload_n X 0 dX8_ways_236 rfl ?_
        refine g_getF X (f := 83) dX8_ways_237 lf_X8_43 rfl rfl rfl ?_
        refine g_iload X 7 dX8_ways_240 rfl ?_
        refine g_lald X dX8_ways_242 rfl q2.1 q2.2 ?_
        refine g_iload X 8 dX8_ways_243 rfl ?_
        refine g_i2l X dX8_ways_245 h32v12 ?_
        refine g_lload X 6 dX8_ways_246 rfl ?_
        refine g_lmul X dX8_ways_248 ?_
        refine g_lsub X dX8_ways_249 ?_
        refine g_aload_n X 0 dX8_ways_250 rfl ?_
        refine g_getF X (f := 84) dX8_ways_251 lf_X8_46 rfl rfl rfl ?_
        refine g_iload X 7 dX8_ways_254 rfl ?_
        refine g_lald X dX8_ways_256 rfl q2.1 q2.2 ?_
        refine g_aload_n X 0 dX8_ways_257 rfl ?_
        refine g_getF X (f := 85) dX8_ways_258 lf_X8_49 rfl rfl rfl ?_
        refine g_iload X 7 dX8_ways_261 rfl ?_
        refine g_iald X dX8_ways_263 rfl q2.1 q2.2 ?_
        refine g_iload X 8 dX8_ways_264 rfl ?_
        refine g_iadd X dX8_ways_266 ?_
        refine g_cVV X (K := K_X8_leaves) [.long (lI ((gL σ 83 v11) - (v12 * v9))), .long (lI (gL σ 84 v11)), .int (iI ((gI σ 85 v11) + v12))] [] dX8_ways_267 lv_X8_225 rm_X8_ways_X8_leaves ⟨by decide, by decide⟩ adA_id rfl rfl rfl (Nat.le_of_ble_eq_true rfl) rfl h (fun s8 h => ?_)
        refine g_iinc X (x := v12) (lv' := [(12, .int (iI (v12 + 1))), (0, .ref 72), (1, .int (iI v1)), (4, .int (iI v4)), (5, .int (iI v5)), (6, .long (lI v6)), (8, .int (iI v8)), (9, .long (lI v9)), (11, .int (iI v11))]) 8 dX8_ways_270 rfl (by decide) rfl ?_
        refine g_goto X (tgt := 191) dX8_ways_273 (by decide) ?_
        exact g_sub (lv' := [(0, .ref 72), (1, .int (iI v1)), (4, .int (iI v4)), (5, .int (iI v5)), (6, .long (lI v6)), (8, .int (iI v8)), (9, .long (lI v9)), (11, .int (iI v11)), (12, .int (iI (v12 + 1)))]) [1, 2, 3, 4, 5, 6, 7, 8, 0] rfl (h p l e s m args below meth c D cA ad X0 hr hlk)
theorem bX8_worth__0 {v1 : Int} {v2 : Int} {v3 : Int} {σ : ASt} {Q : Int → ASt → Prop} (h32v2 : i32 v2) (h32v3 : i32 v3) (h : EvZ K_X8_isBase [.int (iI v1)] σ (fun s1 => ((0 : Int) ≤ v1 ∧ v1 < 3) ∧ i32 (((gI s1 75 v1) - 1)) ∧ EvZ K_X8_in [.long (lI v2), .long (lI 0), .long (lI ((gI s1 75 v1) - 1))] s1 (fun s4 => EvZ K_X8_in [.long (lI v3), .long (lI 0), .long (lI 1)] s4 (fun s5 => ((v3 ≠ 0 → EvI K_X8_step [.ref 72, .int (iI v1), .int (iI v2)] s5 (fun x8 s7 => Q x8 s7)) ∧ (v3 = 0 → EvL K_X8_worth [.ref 72, .int (iI v1), .int (iI v2)] s5 (fun x11 s10 => Q x11 s10)))) (fun s5 => Q (-9223372036854775808) s5)) (fun s4 => Q (-9223372036854775808) s4)) (fun s1 => Q (-9223372036854775808) s1)) : Wx K_X8_worth_ (QL Q) 0 [(0, .ref 72), (1, .int (iI v1)), (2, .int (iI v2)), (3, .int (iI v3))] [] σ := by
  intro p l e s m args below meth c D cA ad X0 hr hlk
  have X : Cx p s m args c (adA ad) D cA ad RX8 cX8_worth_ 4 := X0
  refine g_iload_n X 1 dX8_worth__0 rfl ?_
  refine g_cSZ X (K := K_X8_isBase) [.int (iI v1)] [] dX8_worth__1 ls_X8_114 rm_X8_worth__X8_isBase ⟨by decide, by decide⟩ adA_id rfl (Nat.le_of_ble_eq_true rfl) rfl h (fun s1 h => ?_) (fun s1 h => ?_)
  · skip
    refine g_if_eq X (tgt := 35) dX8_worth__4 (by decide) (by omega) (fun hc => absurd hc (by decide)) (fun _ => ?_)
    refine g_iload_n X 2 dX8_worth__7 rfl ?_
    refine g_i2l X dX8_worth__8 h32v2 ?_
    refine g_lconst X (z := 0) dX8_worth__9 (by decide +kernel) ?_
    refine g_aload_n X 0 dX8_worth__10 rfl ?_
    refine g_getF X (f := 75) dX8_worth__11 lf_X8_18 rfl rfl rfl ?_
    refine g_iload_n X 1 dX8_worth__14 rfl ?_
    obtain ⟨q2, h⟩ := h
    refine g_iald X dX8_worth__15 rfl q2.1 q2.2 ?_
    refine g_iconst X dX8_worth__16 ?_
    refine g_isub X dX8_worth__17 ?_
    obtain ⟨q3, h⟩ := h
    refine g_i2l X dX8_worth__18 q3 ?_
    refine g_cSZ X (K := K_X8_in) [.long (lI v2), .long (lI 0), .long (lI ((gI s1 75 v1) - 1))] [] dX8_worth__19 ls_X8_104 rm_X8_worth__X8_in ⟨by decide, by decide⟩ adA_id rfl (Nat.le_of_ble_eq_true rfl) rfl h (fun s4 h => ?_) (fun s4 h => ?_)
    · skip
      refine g_if_eq X (tgt := 35) dX8_worth__22 (by decide) (by omega) (fun hc => absurd hc (by decide)) (fun _ => ?_)
      refine g_iload_n X 3 dX8_worth__25 rfl ?_
      refine g_i2l X dX8_worth__26 h32v3 ?_
      refine g_lconst X (z := 0) dX8_worth__27 (by decide +kernel) ?_
      refine g_lconst X (z := 1) dX8_worth__28 (by decide +kernel) ?_
      refine g_cSZ X (K := K_X8_in) [.long (lI v3), .long (lI 0), .long (lI 1)] [] dX8_worth__29 ls_X8_104 rm_X8_worth__X8_in ⟨by decide, by decide⟩ adA_id rfl (Nat.le_of_ble_eq_true rfl) rfl h (fun s5 h => ?_) (fun s5 h => ?_)
      · skip
        refine g_if_ne X (tgt := 39) dX8_worth__32 (by decide) (by omega) (fun _ => ?_) (fun hc => absurd hc (by decide))
        refine g_iload_n X 3 dX8_worth__39 rfl ?_
        refine g_if_ne X (tgt := 52) dX8_worth__40 (by decide) h32v3 (fun c6 => ?_) (fun c6 => ?_)
        · have h := h.1 c6
          refine g_aload_n X 0 dX8_worth__52 rfl ?_
          refine g_iload_n X 1 dX8_worth__53 rfl ?_
          refine g_iload_n X 2 dX8_worth__54 rfl ?_
          refine g_cVI X (K := K_X8_step) [.int (iI v1), .int (iI v2)] [] dX8_worth__55 lv_X8_110 rm_X8_worth__X8_step ⟨by decide, by decide⟩ adA_id rfl rfl rfl (Nat.le_of_ble_eq_true rfl) rfl h (fun x8 s7 q9 h => ?_)
          refine g_i2l X dX8_worth__58 q9 ?_
          exact g_lret X hr hlk dX8_worth__59 ⟨_, rfl, (by have := q9; omega), h⟩
        · have h := h.2 c6
          refine g_aload_n X 0 dX8_worth__43 rfl ?_
          refine g_iload_n X 1 dX8_worth__44 rfl ?_
          refine g_iload_n X 2 dX8_worth__45 rfl ?_
          refine g_cVL X (K := K_X8_worth) [.int (iI v1), .int (iI v2)] [] dX8_worth__46 lv_X8_129 rm_X8_worth__X8_worth ⟨by decide, by decide⟩ adA_id rfl rfl rfl (Nat.le_of_ble_eq_true rfl) rfl h (fun x11 s10 q12 h => ?_)
          refine g_goto X (tgt := 59) dX8_worth__49 (by decide) ?_
          exact g_lret X hr hlk dX8_worth__59 ⟨_, rfl, q12, h⟩
      · skip
        refine g_if_ne X (tgt := 39) dX8_worth__32 (by decide) (by omega) (fun hc => absurd hc (by decide)) (fun _ => ?_)
        refine g_ldc2 X (z := (-9223372036854775808)) dX8_worth__35 lc_X8_127 (by decide +kernel) ?_
        exact g_lret X hr hlk dX8_worth__38 ⟨_, rfl, (by omega), h⟩
    · skip
      refine g_if_eq X (tgt := 35) dX8_worth__22 (by decide) (by omega) (fun _ => ?_) (fun hc => absurd hc (by decide))
      refine g_ldc2 X (z := (-9223372036854775808)) dX8_worth__35 lc_X8_127 (by decide +kernel) ?_
      exact g_lret X hr hlk dX8_worth__38 ⟨_, rfl, (by omega), h⟩
  · skip
    refine g_if_eq X (tgt := 35) dX8_worth__4 (by decide) (by omega) (fun _ => ?_) (fun hc => absurd hc (by decide))
    refine g_ldc2 X (z := (-9223372036854775808)) dX8_worth__35 lc_X8_127 (by decide +kernel) ?_
    exact g_lret X hr hlk dX8_worth__38 ⟨_, rfl, (by omega), h⟩
theorem eX8_worth_ {v1 : Int} {v2 : Int} {v3 : Int} {σ : ASt} {Q : Int → ASt → Prop} (h32v2 : i32 v2) (h32v3 : i32 v3) (h : EvZ K_X8_isBase [.int (iI v1)] σ (fun s1 => ((0 : Int) ≤ v1 ∧ v1 < 3) ∧ i32 (((gI s1 75 v1) - 1)) ∧ EvZ K_X8_in [.long (lI v2), .long (lI 0), .long (lI ((gI s1 75 v1) - 1))] s1 (fun s4 => EvZ K_X8_in [.long (lI v3), .long (lI 0), .long (lI 1)] s4 (fun s5 => ((v3 ≠ 0 → EvI K_X8_step [.ref 72, .int (iI v1), .int (iI v2)] s5 (fun x8 s7 => Q x8 s7)) ∧ (v3 = 0 → EvL K_X8_worth [.ref 72, .int (iI v1), .int (iI v2)] s5 (fun x11 s10 => Q x11 s10)))) (fun s5 => Q (-9223372036854775808) s5)) (fun s4 => Q (-9223372036854775808) s4)) (fun s1 => Q (-9223372036854775808) s1)) : EvL K_X8_worth_ [.ref 72, .int (iI v1), .int (iI v2), .int (iI v3)] σ Q := Ev.of rfl (Nat.le_of_ble_eq_true rfl) rfl (bX8_worth__0 h32v2 h32v3 h)
theorem bX8_write_0 {v1 : Int} {v2 : Int} {v3 : Int} {σ : ASt} {Q : Int → ASt → Prop} (h64v3 : i64 v3) (h : EvZ K_X8_isReel [.int (iI v1)] σ (fun s1 => EvZ K_X8_isBase [.int (iI v2)] s1 (fun s2 => ((0 ≤ v3 → ((0 : Int) ≤ v2 ∧ v2 < 3) ∧ i64 ((gL s2 77 v2)) ∧ ((v3 ≤ (gL s2 77 v2) → EvV K_X8_makes [.ref 72, .int (iI v2), .long (lI v3)] s2 (fun s7 => EvI K_X8_holds [.ref 72, .int (iI v1), .int (iI v2)] s7 (fun x9 s8 => Q x9 s8))) ∧ ((gL s2 77 v2) < v3 → Q (-3) s2))) ∧ (v3 < 0 → Q (-2) s2))) (fun s2 => Q (-2) s2)) (fun s1 => Q (-2) s1)) : Wx K_X8_write (QI Q) 0 [(0, .ref 72), (1, .int (iI v1)), (2, .int (iI v2)), (3, .long (lI v3))] [] σ := by
  intro p l e s m args below meth c D cA ad X0 hr hlk
  have X : Cx p s m args c (adA ad) D cA ad RX8 cX8_write 5 := X0
  refine g_iload_n X 1 dX8_write_0 rfl ?_
  refine g_cSZ X (K := K_X8_isReel) [.int (iI v1)] [] dX8_write_1 ls_X8_149 rm_X8_write_X8_isReel ⟨by decide, by decide⟩ adA_id rfl (Nat.le_of_ble_eq_true rfl) rfl h (fun s1 h => ?_) (fun s1 h => ?_)
  · skip
    refine g_if_eq X (tgt := 20) dX8_write_4 (by decide) (by omega) (fun hc => absurd hc (by decide)) (fun _ => ?_)
    refine g_iload_n X 2 dX8_write_7 rfl ?_
    refine g_cSZ X (K := K_X8_isBase) [.int (iI v2)] [] dX8_write_8 ls_X8_114 rm_X8_write_X8_isBase ⟨by decide, by decide⟩ adA_id rfl (Nat.le_of_ble_eq_true rfl) rfl h (fun s2 h => ?_) (fun s2 h => ?_)
    · skip
      refine g_if_eq X (tgt := 20) dX8_write_11 (by decide) (by omega) (fun hc => absurd hc (by decide)) (fun _ => ?_)
      refine g_lload_n X 3 dX8_write_14 rfl ?_
      refine g_lconst X (z := 0) dX8_write_15 (by decide +kernel) ?_
      refine g_lc_ge X (tgt := 23) dX8_write_16 dX8_write_17 (by decide) h64v3 (by omega) (fun c3 => ?_) (fun c3 => ?_)
      · have h := h.1 c3
        refine g_lload_n X 3 dX8_write_23 rfl ?_
        refine g_aload_n X 0 dX8_write_24 rfl ?_
        refine g_getF X (f := 77) dX8_write_25 lf_X8_25 rfl rfl rfl ?_
        refine g_iload_n X 2 dX8_write_28 rfl ?_
        obtain ⟨q4, h⟩ := h
        refine g_lald X dX8_write_29 rfl q4.1 q4.2 ?_
        obtain ⟨q5, h⟩ := h
        refine g_lc_le X (tgt := 37) dX8_write_30 dX8_write_31 (by decide) h64v3 q5 (fun c6 => ?_) (fun c6 => ?_)
        · have h := h.1 c6
          refine g_aload_n X 0 dX8_write_37 rfl ?_
          refine g_iload_n X 2 dX8_write_38 rfl ?_
          refine g_lload_n X 3 dX8_write_39 rfl ?_
          refine g_cVV X (K := K_X8_makes) [.int (iI v2), .long (lI v3)] [] dX8_write_40 lv_X8_152 rm_X8_write_X8_makes ⟨by decide, by decide⟩ adA_id rfl rfl rfl (Nat.le_of_ble_eq_true rfl) rfl h (fun s7 h => ?_)
          refine g_aload_n X 0 dX8_write_43 rfl ?_
          refine g_iload_n X 1 dX8_write_44 rfl ?_
          refine g_iload_n X 2 dX8_write_45 rfl ?_
          refine g_cVI X (K := K_X8_holds) [.int (iI v1), .int (iI v2)] [] dX8_write_46 lv_X8_156 rm_X8_write_X8_holds ⟨by decide, by decide⟩ adA_id rfl rfl rfl (Nat.le_of_ble_eq_true rfl) rfl h (fun x9 s8 q10 h => ?_)
          exact g_iret X hr hlk dX8_write_49 rfl ⟨_, rfl, q10, h⟩
        · have h := h.2 c6
          refine g_bipush X dX8_write_34 (by decide +kernel) ?_
          exact g_iret X hr hlk dX8_write_36 rfl ⟨_, rfl, (by omega), h⟩
      · have h := h.2 c3
        refine g_bipush X dX8_write_20 (by decide +kernel) ?_
        exact g_iret X hr hlk dX8_write_22 rfl ⟨_, rfl, (by omega), h⟩
    · skip
      refine g_if_eq X (tgt := 20) dX8_write_11 (by decide) (by omega) (fun _ => ?_) (fun hc => absurd hc (by decide))
      refine g_bipush X dX8_write_20 (by decide +kernel) ?_
      exact g_iret X hr hlk dX8_write_22 rfl ⟨_, rfl, (by omega), h⟩
  · skip
    refine g_if_eq X (tgt := 20) dX8_write_4 (by decide) (by omega) (fun _ => ?_) (fun hc => absurd hc (by decide))
    refine g_bipush X dX8_write_20 (by decide +kernel) ?_
    exact g_iret X hr hlk dX8_write_22 rfl ⟨_, rfl, (by omega), h⟩
theorem eX8_write {v1 : Int} {v2 : Int} {v3 : Int} {σ : ASt} {Q : Int → ASt → Prop} (h64v3 : i64 v3) (h : EvZ K_X8_isReel [.int (iI v1)] σ (fun s1 => EvZ K_X8_isBase [.int (iI v2)] s1 (fun s2 => ((0 ≤ v3 → ((0 : Int) ≤ v2 ∧ v2 < 3) ∧ i64 ((gL s2 77 v2)) ∧ ((v3 ≤ (gL s2 77 v2) → EvV K_X8_makes [.ref 72, .int (iI v2), .long (lI v3)] s2 (fun s7 => EvI K_X8_holds [.ref 72, .int (iI v1), .int (iI v2)] s7 (fun x9 s8 => Q x9 s8))) ∧ ((gL s2 77 v2) < v3 → Q (-3) s2))) ∧ (v3 < 0 → Q (-2) s2))) (fun s2 => Q (-2) s2)) (fun s1 => Q (-2) s1)) : EvI K_X8_write [.ref 72, .int (iI v1), .int (iI v2), .long (lI v3)] σ Q := Ev.of rfl (Nat.le_of_ble_eq_true rfl) rfl (bX8_write_0 h64v3 h)
