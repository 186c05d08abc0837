/-! by program: the block rules of class 3 -/
theorem bX3_firstFrom_0 {v1 : Int} {σ : ASt} {Q : Int → ASt → Prop}  (h : Wx K_X3_firstFrom (QI Q) 2 [(0, .ref 14), (1, .long (lI v1)), (3, .int (iI 0))] [] σ) : Wx K_X3_firstFrom (QI Q) 0 [(0, .ref 14), (1, .long (lI v1))] [] σ := by
  intro p l e s m args below meth c D cA ad X0 hr hlk
  have X : Cx p s m args c (adA ad) D cA ad RX3 cX3_firstFrom 4 := X0
  refine g_iconst X dX3_firstFrom_0 ?_
  refine g_istore_n X (lv' := [(3, .int (iI 0)), (0, .ref 14), (1, .long (lI v1))]) dX3_firstFrom_1 (by decide) rfl ?_
  exact g_sub (lv' := [(0, .ref 14), (1, .long (lI v1)), (3, .int (iI 0))]) [1, 2, 0] rfl (h p l e s m args below meth c D cA ad X0 hr hlk)
theorem eX3_firstFrom {v1 : Int} {σ : ASt} {Q : Int → ASt → Prop}  (h : Wx K_X3_firstFrom (QI Q) 2 [(0, .ref 14), (1, .long (lI v1)), (3, .int (iI 0))] [] σ) : EvI K_X3_firstFrom [.ref 14, .long (lI v1)] σ Q := Ev.of rfl (Nat.le_of_ble_eq_true rfl) rfl (bX3_firstFrom_0  h)
theorem bX3_firstFrom_2 {v1 : Int} {v3 : Int} {σ : ASt} {Q : Int → ASt → Prop} (h32v3 : i32 v3) (h64v1 : i64 v1) (h : ((gP σ 14 0 = none → False) ∧ (∀ r1 : Nat, gP σ 14 0 = some r1 → shp r1 = (0, 5, 0) ∧ i32 ((gI σ r1 3)) ∧ (((gI σ r1 3) ≤ v3 → Q (gI σ r1 3) σ) ∧ (v3 < (gI σ r1 3) → ((1300 ≤ v3 → Q (gI σ r1 3) σ) ∧ (v3 < 1300 → ((0 : Int) ≤ v3 ∧ v3 < 1300) ∧ i64 ((gL σ (r1 + 2) v3)) ∧ (((gL σ (r1 + 2) v3) < v1 → Wx K_X3_firstFrom (QI Q) 2 [(0, .ref 14), (1, .long (lI v1)), (3, .int (iI (v3 + 1)))] [] σ) ∧ (v1 ≤ (gL σ (r1 + 2) v3) → Q v3 σ))))))))) : Wx K_X3_firstFrom (QI Q) 2 [(0, .ref 14), (1, .long (lI v1)), (3, .int (iI v3))] [] σ := by
  intro p l e s m args below meth c D cA ad X0 hr hlk
  have X : Cx p s m args c (adA ad) D cA ad RX3 cX3_firstFrom 4 := X0
  refine g_iload_n X 2 dX3_firstFrom_2 rfl ?_
  refine g_aload_n X 0 dX3_firstFrom_3 rfl ?_
  refine g_getP X dX3_firstFrom_4 lf_X3_12 rfl rfl (fun c2 => ?_) (fun r1 c2 => ?_)
  · have h := h.1 c2
    exact h.elim
  · obtain ⟨q3, h⟩ := h.2 r1 c2
    refine g_getI X (z := 3) dX3_firstFrom_7 lf_X3_35 q3 rfl rfl ?_
    obtain ⟨q4, h⟩ := h
    refine g_icmp_ge X (tgt := 42) dX3_firstFrom_10 (by decide) h32v3 q4 (fun c5 => ?_) (fun c5 => ?_)
    · have h := h.1 c5
      refine g_aload_n X 0 dX3_firstFrom_42 rfl ?_
      refine g_getPs X dX3_firstFrom_43 lf_X3_12 rfl rfl c2 ?_
      refine g_getI X (z := 3) dX3_firstFrom_46 lf_X3_35 q3 rfl rfl ?_
      exact g_iret X hr hlk dX3_firstFrom_49 rfl ⟨_, rfl, q4, h⟩
    · have h := h.2 c5
      refine g_iload_n X 2 dX3_firstFrom_13 rfl ?_
      refine g_sipush X dX3_firstFrom_14 (by decide +kernel) ?_
      refine g_icmp_ge X (tgt := 42) dX3_firstFrom_17 (by decide) h32v3 (by omega) (fun c8 => ?_) (fun c8 => ?_)
      · have h := h.1 c8
        refine g_aload_n X 0 dX3_firstFrom_42 rfl ?_
        refine g_getPs X dX3_firstFrom_43 lf_X3_12 rfl rfl c2 ?_
        refine g_getI X (z := 3) dX3_firstFrom_46 lf_X3_35 q3 rfl rfl ?_
        exact g_iret X hr hlk dX3_firstFrom_49 rfl ⟨_, rfl, q4, h⟩
      · have h := h.2 c8
        refine g_aload_n X 0 dX3_firstFrom_20 rfl ?_
        refine g_getPs X dX3_firstFrom_21 lf_X3_12 rfl rfl c2 ?_
        refine g_getF X (f := (r1 + 2)) dX3_firstFrom_24 lf_X3_58 q3 rfl (fn_5_0 q3) ?_
        refine g_iload_n X 2 dX3_firstFrom_27 rfl ?_
        obtain ⟨q13, h⟩ := h
        refine g_lald X dX3_firstFrom_28 (sf_5_0 q3) q13.1 q13.2 ?_
        refine g_lload_n X 1 dX3_firstFrom_29 rfl ?_
        obtain ⟨q14, h⟩ := h
        refine g_lc_lt X (tgt := 36) dX3_firstFrom_30 dX3_firstFrom_31 (by decide) q14 h64v1 (fun c15 => ?_) (fun c15 => ?_)
        · have h := h.1 c15
          refine g_iinc X (x := v3) (lv' := [(3, .int (iI (v3 + 1))), (0, .ref 14), (1, .long (lI v1))]) 2 dX3_firstFrom_36 rfl (by decide) rfl ?_
          refine g_goto X (tgt := 2) dX3_firstFrom_39 (by decide) ?_
          exact g_sub (lv' := [(0, .ref 14), (1, .long (lI v1)), (3, .int (iI (v3 + 1)))]) [1, 2, 0] rfl (h p l e s m args below meth c D cA ad X0 hr hlk)
        · have h := h.2 c15
          refine g_iload_n X 2 dX3_firstFrom_34 rfl ?_
          exact g_iret X hr hlk dX3_firstFrom_35 rfl ⟨_, rfl, h32v3, h⟩
theorem bX3_nextLeast_0 {v1 : Int} {v3 : Int} {σ : ASt} {Q : Int → ASt → Prop}  (h : Wx K_X3_nextLeast (QI Q) 9 [(0, .ref 14), (1, .long (lI v1)), (3, .int (iI v3)), (4, .int (iI (-1))), (5, .long (lI 0)), (7, .int (iI 0))] [] σ) : Wx K_X3_nextLeast (QI Q) 0 [(0, .ref 14), (1, .long (lI v1)), (3, .int (iI v3))] [] σ := by
  intro p l e s m args below meth c D cA ad X0 hr hlk
  have X : Cx p s m args c (adA ad) D cA ad RX3 cX3_nextLeast 11 := X0
  refine g_iconst X dX3_nextLeast_0 ?_
  refine g_istore X (lv' := [(4, .int (iI (-1))), (0, .ref 14), (1, .long (lI v1)), (3, .int (iI v3))]) dX3_nextLeast_1 (by decide) rfl ?_
  refine g_lconst X (z := 0) dX3_nextLeast_3 (by decide +kernel) ?_
  refine g_lstore X (lv' := [(5, .long (lI 0)), (4, .int (iI (-1))), (0, .ref 14), (1, .long (lI v1)), (3, .int (iI v3))]) dX3_nextLeast_4 (by decide) rfl ?_
  refine g_iconst X dX3_nextLeast_6 ?_
  refine g_istore X (lv' := [(7, .int (iI 0)), (5, .long (lI 0)), (4, .int (iI (-1))), (0, .ref 14), (1, .long (lI v1)), (3, .int (iI v3))]) dX3_nextLeast_7 (by decide) rfl ?_
  exact g_sub (lv' := [(0, .ref 14), (1, .long (lI v1)), (3, .int (iI v3)), (4, .int (iI (-1))), (5, .long (lI 0)), (7, .int (iI 0))]) [3, 4, 5, 2, 1, 0] rfl (h p l e s m args below meth c D cA ad X0 hr hlk)
theorem eX3_nextLeast {v1 : Int} {v3 : Int} {σ : ASt} {Q : Int → ASt → Prop}  (h : Wx K_X3_nextLeast (QI Q) 9 [(0, .ref 14), (1, .long (lI v1)), (3, .int (iI v3)), (4, .int (iI (-1))), (5, .long (lI 0)), (7, .int (iI 0))] [] σ) : EvI K_X3_nextLeast [.ref 14, .long (lI v1), .int (iI v3)] σ Q := Ev.of rfl (Nat.le_of_ble_eq_true rfl) rfl (bX3_nextLeast_0  h)
theorem bX3_nextLeast_9 {v1 : Int} {v3 : Int} {v4 : Int} {v5 : Int} {v7 : Int} {σ : ASt} {Q : Int → ASt → Prop} (h32v3 : i32 v3) (h32v4 : i32 v4) (h32v7 : i32 v7) (h64v5 : i64 v5) (h : ((v3 < v7 → Q v4 σ) ∧ (v7 ≤ v3 → ((10 ≤ v7 → Q v4 σ) ∧ (v7 < 10 → ((0 : Int) ≤ v7 ∧ v7 < 10) ∧ i32 ((gI σ 15 v7)) ∧ (((gI σ 15 v7) < 0 → Wx K_X3_nextLeast (QI Q) 9 [(0, .ref 14), (1, .long (lI v1)), (3, .int (iI v3)), (4, .int (iI v4)), (5, .long (lI v5)), (7, .int (iI (v7 + 1)))] [] σ) ∧ (0 ≤ (gI σ 15 v7) → ((gP σ 14 0 = none → False) ∧ (∀ r6 : Nat, gP σ 14 0 = some r6 → shp r6 = (0, 5, 0) ∧ i32 ((gI σ r6 3)) ∧ (((gI σ r6 3) ≤ (gI σ 15 v7) → Wx K_X3_nextLeast (QI Q) 9 [(0, .ref 14), (1, .long (lI v1)), (3, .int (iI v3)), (4, .int (iI v4)), (5, .long (lI v5)), (7, .int (iI (v7 + 1)))] [] σ) ∧ ((gI σ 15 v7) < (gI σ r6 3) → (((gI σ 15 v7) < 1300 → ((0 : Int) ≤ (gI σ 15 v7) ∧ (gI σ 15 v7) < 1300) ∧ ((v4 = (-1) → Wx K_X3_nextLeast (QI Q) 9 [(0, .ref 14), (1, .long (lI v1)), (3, .int (iI v3)), (4, .int (iI v7)), (5, .long (lI ((gL σ (r6 + 2) (gI σ 15 v7)) - (v7 * v1)))), (7, .int (iI (v7 + 1)))] [] σ) ∧ (v4 ≠ (-1) → i64 (((gL σ (r6 + 2) (gI σ 15 v7)) - (v7 * v1))) ∧ ((v5 ≤ ((gL σ (r6 + 2) (gI σ 15 v7)) - (v7 * v1)) → Wx K_X3_nextLeast (QI Q) 9 [(0, .ref 14), (1, .long (lI v1)), (3, .int (iI v3)), (4, .int (iI v4)), (5, .long (lI v5)), (7, .int (iI (v7 + 1)))] [] σ) ∧ (((gL σ (r6 + 2) (gI σ 15 v7)) - (v7 * v1)) < v5 → Wx K_X3_nextLeast (QI Q) 9 [(0, .ref 14), (1, .long (lI v1)), (3, .int (iI v3)), (4, .int (iI v7)), (5, .long (lI ((gL σ (r6 + 2) (gI σ 15 v7)) - (v7 * v1)))), (7, .int (iI (v7 + 1)))] [] σ))))) ∧ (1300 ≤ (gI σ 15 v7) → Wx K_X3_nextLeast (QI Q) 9 [(0, .ref 14), (1, .long (lI v1)), (3, .int (iI v3)), (4, .int (iI v4)), (5, .long (lI v5)), (7, .int (iI (v7 + 1)))] [] σ))))))))))))) : Wx K_X3_nextLeast (QI Q) 9 [(0, .ref 14), (1, .long (lI v1)), (3, .int (iI v3)), (4, .int (iI v4)), (5, .long (lI v5)), (7, .int (iI v7))] [] σ := by
  intro p l e s m args below meth c D cA ad X0 hr hlk
  have X : Cx p s m args c (adA ad) D cA ad RX3 cX3_nextLeast 11 := X0
  refine g_iload X 5 dX3_nextLeast_9 rfl ?_
  refine g_iload_n X 2 dX3_nextLeast_11 rfl ?_
  refine g_icmp_gt X (tgt := 108) dX3_nextLeast_12 (by decide) h32v7 h32v3 (fun c1 => ?_) (fun c1 => ?_)
  · have h := h.1 c1
    refine g_iload X 3 dX3_nextLeast_108 rfl ?_
    exact g_iret X hr hlk dX3_nextLeast_110 rfl ⟨_, rfl, h32v4, h⟩
  · have h := h.2 c1
    refine g_iload X 5 dX3_nextLeast_15 rfl ?_
    refine g_aload_n X 0 dX3_nextLeast_17 rfl ?_
    refine g_getF X (f := 15) dX3_nextLeast_18 lf_X3_21 rfl rfl rfl ?_
    refine g_alen1 X (z := 10) dX3_nextLeast_21 rfl rfl ?_
    refine g_icmp_ge X (tgt := 108) dX3_nextLeast_22 (by decide) h32v7 (by omega) (fun c2 => ?_) (fun c2 => ?_)
    · have h := h.1 c2
      refine g_iload X 3 dX3_nextLeast_108 rfl ?_
      exact g_iret X hr hlk dX3_nextLeast_110 rfl ⟨_, rfl, h32v4, h⟩
    · have h := h.2 c2
      refine g_aload_n X 0 dX3_nextLeast_25 rfl ?_
      refine g_getF X (f := 15) dX3_nextLeast_26 lf_X3_21 rfl rfl rfl ?_
      refine g_iload X 5 dX3_nextLeast_29 rfl ?_
      obtain ⟨q3, h⟩ := h
      refine g_iald X dX3_nextLeast_31 rfl q3.1 q3.2 ?_
      refine g_istore X (lv' := [(8, .int (iI (gI σ 15 v7))), (0, .ref 14), (1, .long (lI v1)), (3, .int (iI v3)), (4, .int (iI v4)), (5, .long (lI v5)), (7, .int (iI v7))]) dX3_nextLeast_32 (by decide) rfl ?_
      refine g_iload X 0 dX3_nextLeast_34 rfl ?_
      obtain ⟨q4, h⟩ := h
      refine g_if_lt X (tgt := 102) dX3_nextLeast_36 (by decide) q4 (fun c5 => ?_) (fun c5 => ?_)
      · have h := h.1 c5
        refine g_iinc X (x := v7) (lv' := [(7, .int (iI (v7 + 1))), (8, .int (iI (gI σ 15 v7))), (0, .ref 14), (1, .long (lI v1)), (3, .int (iI v3)), (4, .int (iI v4)), (5, .long (lI v5))]) 6 dX3_nextLeast_102 rfl (by decide) rfl ?_
        refine g_goto X (tgt := 9) dX3_nextLeast_105 (by decide) ?_
        exact g_sub (lv' := [(0, .ref 14), (1, .long (lI v1)), (3, .int (iI v3)), (4, .int (iI v4)), (5, .long (lI v5)), (7, .int (iI (v7 + 1)))]) [2, 3, 4, 5, 6, 0] rfl (h p l e s m args below meth c D cA ad X0 hr hlk)
      · have h := h.2 c5
        refine g_iload X 0 dX3_nextLeast_39 rfl ?_
        refine g_aload_n X 1 dX3_nextLeast_41 rfl ?_
        refine g_getP X dX3_nextLeast_42 lf_X3_12 rfl rfl (fun c7 => ?_) (fun r6 c7 => ?_)
        · have h := h.1 c7
          exact h.elim
        · obtain ⟨q8, h⟩ := h.2 r6 c7
          refine g_getI X (z := 3) dX3_nextLeast_45 lf_X3_35 q8 rfl rfl ?_
          obtain ⟨q9, h⟩ := h
          refine g_icmp_ge X (tgt := 102) dX3_nextLeast_48 (by decide) q4 q9 (fun c10 => ?_) (fun c10 => ?_)
          · have h := h.1 c10
            refine g_iinc X (x := v7) (lv' := [(7, .int (iI (v7 + 1))), (8, .int (iI (gI σ 15 v7))), (0, .ref 14), (1, .long (lI v1)), (3, .int (iI v3)), (4, .int (iI v4)), (5, .long (lI v5))]) 6 dX3_nextLeast_102 rfl (by decide) rfl ?_
            refine g_goto X (tgt := 9) dX3_nextLeast_105 (by decide) ?_
            exact g_sub (lv' := [(0, .ref 14), (1, .long (lI v1)), (3, .int (iI v3)), (4, .int (iI v4)), (5, .long (lI v5)), (7, .int (iI (v7 + 1)))]) [2, 3, 4, 5, 6, 0] rfl (h p l e s m args below meth c D cA ad X0 hr hlk)
          · have h := h.2 c10
            refine g_iload X 0 dX3_nextLeast_51 rfl ?_
            refine g_sipush X dX3_nextLeast_53 (by decide +kernel) ?_
            refine g_icmp_lt X (tgt := 62) dX3_nextLeast_56 (by decide) q4 (by omega) (fun c11 => ?_) (fun c11 => ?_)
            · have h := h.1 c11
              refine g_aload_n X 1 dX3_nextLeast_62 rfl ?_
              refine g_getPs X dX3_nextLeast_63 lf_X3_12 rfl rfl c7 ?_
              refine g_getF X (f := (r6 + 2)) dX3_nextLeast_66 lf_X3_58 q8 rfl (fn_5_0 q8) ?_
              refine g_iload X 0 dX3_nextLeast_69 rfl ?_
              obtain ⟨q14, h⟩ := h
              refine g_lald X dX3_nextLeast_71 (sf_5_0 q8) q14.1 q14.2 ?_
              refine g_iload X 6 dX3_nextLeast_72 rfl ?_
              refine g_i2l X dX3_nextLeast_74 h32v7 ?_
              refine g_lload_n X 2 dX3_nextLeast_75 rfl ?_
              refine g_lmul X dX3_nextLeast_76 ?_
              refine g_lsub X dX3_nextLeast_77 ?_
              refine g_lstore X (lv' := [(9, .long (lI ((gL σ (r6 + 2) (gI σ 15 v7)) - (v7 * v1)))), (8, .int (iI (gI σ 15 v7))), (0, .ref 14), (1, .long (lI v1)), (3, .int (iI v3)), (4, .int (iI v4)), (5, .long (lI v5)), (7, .int (iI v7))]) dX3_nextLeast_78 (by decide) rfl ?_
              refine g_iload X 5 dX3_nextLeast_80 rfl ?_
              refine g_iconst X dX3_nextLeast_82 ?_
              refine g_icmp_eq X (tgt := 94) dX3_nextLeast_83 (by decide) h32v4 (by omega) (fun c15 => ?_) (fun c15 => ?_)
              · have h := h.1 c15
                refine g_lload X 0 dX3_nextLeast_94 rfl ?_
                refine g_lstore X (lv' := [(5, .long (lI ((gL σ (r6 + 2) (gI σ 15 v7)) - (v7 * v1)))), (9, .long (lI ((gL σ (r6 + 2) (gI σ 15 v7)) - (v7 * v1)))), (8, .int (iI (gI σ 15 v7))), (0, .ref 14), (1, .long (lI v1)), (3, .int (iI v3)), (4, .int (iI v4)), (7, .int (iI v7))]) dX3_nextLeast_96 (by decide) rfl ?_
                refine g_iload X 7 dX3_nextLeast_98 rfl ?_
                refine g_istore X (lv' := [(4, .int (iI v7)), (5, .long (lI ((gL σ (r6 + 2) (gI σ 15 v7)) - (v7 * v1)))), (9, .long (lI ((gL σ (r6 + 2) (gI σ 15 v7)) - (v7 * v1)))), (8, .int (iI (gI σ 15 v7))), (0, .ref 14), (1, .long (lI v1)), (3, .int (iI v3)), (7, .int (iI v7))]) dX3_nextLeast_100 (by decide) rfl ?_
                refine g_iinc X (x := v7) (lv' := [(7, .int (iI (v7 + 1))), (4, .int (iI v7)), (5, .long (lI ((gL σ (r6 + 2) (gI σ 15 v7)) - (v7 * v1)))), (9, .long (lI ((gL σ (r6 + 2) (gI σ 15 v7)) - (v7 * v1)))), (8, .int (iI (gI σ 15 v7))), (0, .ref 14), (1, .long (lI v1)), (3, .int (iI v3))]) 7 dX3_nextLeast_102 rfl (by decide) rfl ?_
                refine g_goto X (tgt := 9) dX3_nextLeast_105 (by decide) ?_
                exact g_sub (lv' := [(0, .ref 14), (1, .long (lI v1)), (3, .int (iI v3)), (4, .int (iI v7)), (5, .long (lI ((gL σ (r6 + 2) (gI σ 15 v7)) - (v7 * v1)))), (7, .int (iI (v7 + 1)))]) [5, 6, 7, 1, 2, 0] rfl (h p l e s m args below meth c D cA ad X0 hr hlk)
              · have h := h.2 c15
                refine g_lload X 0 dX3_nextLeast_86 rfl ?_
                refine g_lload X 6 dX3_nextLeast_88 rfl ?_
                obtain ⟨q16, h⟩ := h
                refine g_lc_ge X (tgt := 102) dX3_nextLeast_90 dX3_nextLeast_91 (by decide) q16 h64v5 (fun c17 => ?_) (fun c17 => ?_)
                · have h := h.1 c17
                  refine g_iinc X (x := v7) (lv' := [(7, .int (iI (v7 + 1))), (9, .long (lI ((gL σ (r6 + 2) (gI σ 15 v7)) - (v7 * v1)))), (8, .int (iI (gI σ 15 v7))), (0, .ref 14), (1, .long (lI v1)), (3, .int (iI v3)), (4, .int (iI v4)), (5, .long (lI v5))]) 7 dX3_nextLeast_102 rfl (by decide) rfl ?_
                  refine g_goto X (tgt := 9) dX3_nextLeast_105 (by decide) ?_
                  exact g_sub (lv' := [(0, .ref 14), (1, .long (lI v1)), (3, .int (iI v3)), (4, .int (iI v4)), (5, .long (lI v5)), (7, .int (iI (v7 + 1)))]) [3, 4, 5, 6, 7, 0] rfl (h p l e s m args below meth c D cA ad X0 hr hlk)
                · have h := h.2 c17
                  refine g_lload X 0 dX3_nextLeast_94 rfl ?_
                  refine g_lstore X (lv' := [(5, .long (lI ((gL σ (r6 + 2) (gI σ 15 v7)) - (v7 * v1)))), (9, .long (lI ((gL σ (r6 + 2) (gI σ 15 v7)) - (v7 * v1)))), (8, .int (iI (gI σ 15 v7))), (0, .ref 14), (1, .long (lI v1)), (3, .int (iI v3)), (4, .int (iI v4)), (7, .int (iI v7))]) dX3_nextLeast_96 (by decide) rfl ?_
                  refine g_iload X 7 dX3_nextLeast_98 rfl ?_
                  refine g_istore X (lv' := [(4, .int (iI v7)), (5, .long (lI ((gL σ (r6 + 2) (gI σ 15 v7)) - (v7 * v1)))), (9, .long (lI ((gL σ (r6 + 2) (gI σ 15 v7)) - (v7 * v1)))), (8, .int (iI (gI σ 15 v7))), (0, .ref 14), (1, .long (lI v1)), (3, .int (iI v3)), (7, .int (iI v7))]) dX3_nextLeast_100 (by decide) rfl ?_
                  refine g_iinc X (x := v7) (lv' := [(7, .int (iI (v7 + 1))), (4, .int (iI v7)), (5, .long (lI ((gL σ (r6 + 2) (gI σ 15 v7)) - (v7 * v1)))), (9, .long (lI ((gL σ (r6 + 2) (gI σ 15 v7)) - (v7 * v1)))), (8, .int (iI (gI σ 15 v7))), (0, .ref 14), (1, .long (lI v1)), (3, .int (iI v3))]) 7 dX3_nextLeast_102 rfl (by decide) rfl ?_
                  refine g_goto X (tgt := 9) dX3_nextLeast_105 (by decide) ?_
                  exact g_sub (lv' := [(0, .ref 14), (1, .long (lI v1)), (3, .int (iI v3)), (4, .int (iI v7)), (5, .long (lI ((gL σ (r6 + 2) (gI σ 15 v7)) - (v7 * v1)))), (7, .int (iI (v7 + 1)))]) [5, 6, 7, 1, 2, 0] rfl (h p l e s m args below meth c D cA ad X0 hr hlk)
            · have h := h.2 c11
              refine g_goto X (tgt := 102) dX3_nextLeast_59 (by decide) ?_
              refine g_iinc X (x := v7) (lv' := [(7, .int (iI (v7 + 1))), (8, .int (iI (gI σ 15 v7))), (0, .ref 14), (1, .long (lI v1)), (3, .int (iI v3)), (4, .int (iI v4)), (5, .long (lI v5))]) 6 dX3_nextLeast_102 rfl (by decide) rfl ?_
              refine g_goto X (tgt := 9) dX3_nextLeast_105 (by decide) ?_
              exact g_sub (lv' := [(0, .ref 14), (1, .long (lI v1)), (3, .int (iI v3)), (4, .int (iI v4)), (5, .long (lI v5)), (7, .int (iI (v7 + 1)))]) [2, 3, 4, 5, 6, 0] rfl (h p l e s m args below meth c D cA ad X0 hr hlk)
theorem bX3_take_0 {v1 : Int} {v3 : Int} {v4 : Int} {σ : ASt} {Q : ASt → Prop}  (h : ((gP σ 14 1 = none → False) ∧ (∀ r1 : Nat, gP σ 14 1 = some r1 → shp r1 = (0, 5, 0) ∧ Wx K_X3_take (QV Q) 11 [(0, .ref 14), (1, .long (lI v1)), (3, .int (iI v3)), (4, .long (lI v4)), (6, .int (iI 0))] [] (sI σ r1 3 0)))) : Wx K_X3_take (QV Q) 0 [(0, .ref 14), (1, .long (lI v1)), (3, .int (iI v3)), (4, .long (lI v4))] [] σ := by
  intro p l e s m args below meth c D cA ad X0 hr hlk
  have X : Cx p s m args c (adA ad) D cA ad RX3 cX3_take 12 := X0
  refine g_aload_n X 0 dX3_take_0 rfl ?_
  refine g_getP X dX3_take_1 lf_X3_18 rfl rfl (fun c2 => ?_) (fun r1 c2 => ?_)
  · have h := h.1 c2
    refine g_iconst X dX3_take_4 ?_
    exact h.elim
  · obtain ⟨q3, h⟩ := h.2 r1 c2
    refine g_iconst X dX3_take_4 ?_
    refine g_putI X (j := 3) (z := 3) dX3_take_5 lp_X3_35 q3 rfl rfl ?_
    refine g_iconst X dX3_take_8 ?_
    refine g_istore X (lv' := [(6, .int (iI 0)), (0, .ref 14), (1, .long (lI v1)), (3, .int (iI v3)), (4, .long (lI v4))]) dX3_take_9 (by decide) rfl ?_
    exact g_sub (lv' := [(0, .ref 14), (1, .long (lI v1)), (3, .int (iI v3)), (4, .long (lI v4)), (6, .int (iI 0))]) [1, 2, 3, 4, 0] rfl (h p l e s m args below meth c D cA ad X0 hr hlk)
theorem eX3_take {v1 : Int} {v3 : Int} {v4 : Int} {σ : ASt} {Q : ASt → Prop}  (h : ((gP σ 14 1 = none → False) ∧ (∀ r1 : Nat, gP σ 14 1 = some r1 → shp r1 = (0, 5, 0) ∧ Wx K_X3_take (QV Q) 11 [(0, .ref 14), (1, .long (lI v1)), (3, .int (iI v3)), (4, .long (lI v4)), (6, .int (iI 0))] [] (sI σ r1 3 0)))) : EvV K_X3_take [.ref 14, .long (lI v1), .int (iI v3), .long (lI v4)] σ Q := Ev.of rfl (Nat.le_of_ble_eq_true rfl) rfl (bX3_take_0  h)
theorem bX3_take_11 {v1 : Int} {v3 : Int} {v4 : Int} {v6 : Int} {σ : ASt} {Q : ASt → Prop} (h32v3 : i32 v3) (h32v6 : i32 v6) (h : ((v3 < v6 → ((gP σ 14 0 = none → False) ∧ (∀ r2 : Nat, gP σ 14 0 = some r2 → shp r2 = (0, 5, 0) ∧ Wx K_X3_take (QV Q) 65 [(0, .ref 14), (1, .long (lI v1)), (3, .int (iI v3)), (4, .long (lI v4)), (6, .int (iI ((gI σ r2 3) * (v3 + 1)))), (7, .int (iI 0))] [] σ))) ∧ (v6 ≤ v3 → ((10 ≤ v6 → ((gP σ 14 0 = none → False) ∧ (∀ r6 : Nat, gP σ 14 0 = some r6 → shp r6 = (0, 5, 0) ∧ Wx K_X3_take (QV Q) 65 [(0, .ref 14), (1, .long (lI v1)), (3, .int (iI v3)), (4, .long (lI v4)), (6, .int (iI ((gI σ r6 3) * (v3 + 1)))), (7, .int (iI 0))] [] σ))) ∧ (v6 < 10 → EvI K_X3_firstFrom [.ref 14, .long (lI (v6 * v1))] σ (fun x10 s9 => ((0 : Int) ≤ v6 ∧ v6 < 10) ∧ Wx K_X3_take (QV Q) 11 [(0, .ref 14), (1, .long (lI v1)), (3, .int (iI v3)), (4, .long (lI v4)), (6, .int (iI (v6 + 1)))] [] (sI s9 15 v6 x10))))))) : Wx K_X3_take (QV Q) 11 [(0, .ref 14), (1, .long (lI v1)), (3, .int (iI v3)), (4, .long (lI v4)), (6, .int (iI v6))] [] σ := by
  intro p l e s m args below meth c D cA ad X0 hr hlk
  have X : Cx p s m args c (adA ad) D cA ad RX3 cX3_take 12 := X0
  refine g_iload X 4 dX3_take_11 rfl ?_
  refine g_iload_n X 2 dX3_take_13 rfl ?_
  refine g_icmp_gt X (tgt := 49) dX3_take_14 (by decide) h32v6 h32v3 (fun c1 => ?_) (fun c1 => ?_)
  · have h := h.1 c1
    refine g_aload_n X 0 dX3_take_49 rfl ?_
    refine g_getP X dX3_take_50 lf_X3_12 rfl rfl (fun c3 => ?_) (fun r2 c3 => ?_)
    · have h := h.1 c3
      exact h.elim
    · obtain ⟨q4, h⟩ := h.2 r2 c3
      refine g_getI X (z := 3) dX3_take_53 lf_X3_35 q4 rfl rfl ?_
      refine g_iload_n X 2 dX3_take_56 rfl ?_
      refine g_iconst X dX3_take_57 ?_
      refine g_iadd X dX3_take_58 ?_
      refine g_imul X dX3_take_59 ?_
      refine g_istore X (lv' := [(6, .int (iI ((gI σ r2 3) * (v3 + 1)))), (0, .ref 14), (1, .long (lI v1)), (3, .int (iI v3)), (4, .long (lI v4))]) dX3_take_60 (by decide) rfl ?_
      refine g_iconst X dX3_take_62 ?_
      refine g_istore X (lv' := [(7, .int (iI 0)), (6, .int (iI ((gI σ r2 3) * (v3 + 1)))), (0, .ref 14), (1, .long (lI v1)), (3, .int (iI v3)), (4, .long (lI v4))]) dX3_take_63 (by decide) rfl ?_
      exact g_sub (lv' := [(0, .ref 14), (1, .long (lI v1)), (3, .int (iI v3)), (4, .long (lI v4)), (6, .int (iI ((gI σ r2 3) * (v3 + 1)))), (7, .int (iI 0))]) [2, 3, 4, 5, 1, 0] rfl (h p l e s m args below meth c D cA ad X0 hr hlk)
  · have h := h.2 c1
    refine g_iload X 4 dX3_take_17 rfl ?_
    refine g_aload_n X 0 dX3_take_19 rfl ?_
    refine g_getF X (f := 15) dX3_take_20 lf_X3_21 rfl rfl rfl ?_
    refine g_alen1 X (z := 10) dX3_take_23 rfl rfl ?_
    refine g_icmp_ge X (tgt := 49) dX3_take_24 (by decide) h32v6 (by omega) (fun c5 => ?_) (fun c5 => ?_)
    · have h := h.1 c5
      refine g_aload_n X 0 dX3_take_49 rfl ?_
      refine g_getP X dX3_take_50 lf_X3_12 rfl rfl (fun c7 => ?_) (fun r6 c7 => ?_)
      · have h := h.1 c7
        exact h.elim
      · obtain ⟨q8, h⟩ := h.2 r6 c7
        refine g_getI X (z := 3) dX3_take_53 lf_X3_35 q8 rfl rfl ?_
        refine g_iload_n X 2 dX3_take_56 rfl ?_
        refine g_iconst X dX3_take_57 ?_
        refine g_iadd X dX3_take_58 ?_
        refine g_imul X dX3_take_59 ?_
        refine g_istore X (lv' := [(6, .int (iI ((gI σ r6 3) * (v3 + 1)))), (0, .ref 14), (1, .long (lI v1)), (3, .int (iI v3)), (4, .long (lI v4))]) dX3_take_60 (by decide) rfl ?_
        refine g_iconst X dX3_take_62 ?_
        refine g_istore X (lv' := [(7, .int (iI 0)), (6, .int (iI ((gI σ r6 3) * (v3 + 1)))), (0, .ref 14), (1, .long (lI v1)), (3, .int (iI v3)), (4, .long (lI v4))]) dX3_take_63 (by decide) rfl ?_
        exact g_sub (lv' := [(0, .ref 14), (1, .long (lI v1)), (3, .int (iI v3)), (4, .long (lI v4)), (6, .int (iI ((gI σ r6 3) * (v3 + 1)))), (7, .int (iI 0))]) [2, 3, 4, 5, 1, 0] rfl (h p l e s m args below meth c D cA ad X0 hr hlk)
    · have h := h.2 c5
      refine g_aload_n X 0 dX3_take_27 rfl ?_
      refine g_getF X (f := 15) dX3_take_28 lf_X3_21 rfl rfl rfl ?_
      refine g_iload X 4 dX3_take_31 rfl ?_
      refine g_aload_n X 0 dX3_take_33 rfl ?_
      refine g_iload X 4 dX3_take_34 rfl ?_
      refine g_i2l X dX3_take_36 h32v6 ?_
      refine g_lload_n X 1 dX3_take_37 rfl ?_
      refine g_lmul X dX3_take_38 ?_
      refine g_cVI X (K := K_X3_firstFrom) [.long (lI (v6 * v1))] [.int (iI v6), .ref 15] dX3_take_39 lv_X3_50 rm_X3_take_X3_firstFrom ⟨by decide, by decide⟩ adA_id rfl rfl rfl (Nat.le_of_ble_eq_true rfl) rfl h (fun x10 s9 q11 h => ?_)
      obtain ⟨q12, h⟩ := h
      refine g_iast X dX3_take_42 rfl q12.1 q12.2 ?_
      refine g_iinc X (x := v6) (lv' := [(6, .int (iI (v6 + 1))), (0, .ref 14), (1, .long (lI v1)), (3, .int (iI v3)), (4, .long (lI v4))]) 4 dX3_take_43 rfl (by decide) rfl ?_
      refine g_goto X (tgt := 11) dX3_take_46 (by decide) ?_
      exact g_sub (lv' := [(0, .ref 14), (1, .long (lI v1)), (3, .int (iI v3)), (4, .long (lI v4)), (6, .int (iI (v6 + 1)))]) [1, 2, 3, 4, 0] rfl (h p l e s m args below meth c D cA ad X0 hr hlk)
theorem bX3_take_65 {v1 : Int} {v3 : Int} {v4 : Int} {v6 : Int} {v7 : Int} {σ : ASt} {Q : ASt → Prop} (h32v6 : i32 v6) (h32v7 : i32 v7) (h64v4 : i64 v4) (h : ((v6 ≤ v7 → Q σ) ∧ (v7 < v6 → EvI K_X3_nextLeast [.ref 14, .long (lI v1), .int (iI v3)] σ (fun x3 s2 => ((x3 < 0 → Q s2) ∧ (0 ≤ x3 → ((10 ≤ x3 → Q s2) ∧ (x3 < 10 → ((0 : Int) ≤ x3 ∧ x3 < 10) ∧ i32 ((gI s2 15 x3)) ∧ (((gI s2 15 x3) < 0 → Q s2) ∧ (0 ≤ (gI s2 15 x3) → ((gP s2 14 0 = none → False) ∧ (∀ r10 : Nat, gP s2 14 0 = some r10 → shp r10 = (0, 5, 0) ∧ i32 ((gI s2 r10 3)) ∧ (((gI s2 15 x3) < (gI s2 r10 3) → ((0 : Int) ≤ (gI s2 15 x3) ∧ (gI s2 15 x3) < 1300) ∧ i64 (((gL s2 (r10 + 2) (gI s2 15 x3)) - (x3 * v1))) ∧ ((((gL s2 (r10 + 2) (gI s2 15 x3)) - (x3 * v1)) ≤ v4 → ((gP s2 14 1 = none → False) ∧ (∀ r20 : Nat, gP s2 14 1 = some r20 → shp r20 = (0, 5, 0) ∧ EvV K_X5_add [.ref r20, .long (lI ((gL s2 (r10 + 2) (gI s2 15 x3)) - (x3 * v1))), .long (lI (gL s2 (r10 + 4) (gI s2 15 x3))), .int (iI ((gI s2 (r10 + 6) (gI s2 15 x3)) + x3))] s2 (fun s31 => Wx K_X3_take (QV Q) 65 [(0, .ref 14), (1, .long (lI v1)), (3, .int (iI v3)), (4, .long (lI v4)), (6, .int (iI v6)), (7, .int (iI (v7 + 1)))] [] (sI s31 15 x3 ((gI s31 15 x3) + 1)))))) ∧ (v4 < ((gL s2 (r10 + 2) (gI s2 15 x3)) - (x3 * v1)) → Q s2))) ∧ ((gI s2 r10 3) ≤ (gI s2 15 x3) → Q s2)))))))))))))) : Wx K_X3_take (QV Q) 65 [(0, .ref 14), (1, .long (lI v1)), (3, .int (iI v3)), (4, .long (lI v4)), (6, .int (iI v6)), (7, .int (iI v7))] [] σ := by
  intro p l e s m args below meth c D cA ad X0 hr hlk
  have X : Cx p s m args c (adA ad) D cA ad RX3 cX3_take 12 := X0
  refine g_iload X 5 dX3_take_65 rfl ?_
  refine g_iload X 4 dX3_take_67 rfl ?_
  refine g_icmp_ge X (tgt := 208) dX3_take_69 (by decide) h32v7 h32v6 (fun c1 => ?_) (fun c1 => ?_)
  · have h := h.1 c1
    exact g_vret X hr hlk dX3_take_208 ⟨rfl, h⟩
  · have h := h.2 c1
    refine g_aload_n X 0 dX3_take_72 rfl ?_
    refine g_lload_n X 1 dX3_take_73 rfl ?_
    refine g_iload_n X 2 dX3_take_74 rfl ?_
    refine g_cVI X (K := K_X3_nextLeast) [.long (lI v1), .int (iI v3)] [] dX3_take_75 lv_X3_54 rm_X3_take_X3_nextLeast ⟨by decide, by decide⟩ adA_id rfl rfl rfl (Nat.le_of_ble_eq_true rfl) rfl h (fun x3 s2 q4 h => ?_)
    refine g_istore X (lv' := [(8, .int (iI x3)), (0, .ref 14), (1, .long (lI v1)), (3, .int (iI v3)), (4, .long (lI v4)), (6, .int (iI v6)), (7, .int (iI v7))]) dX3_take_78 (by decide) rfl ?_
    refine g_iload X 0 dX3_take_80 rfl ?_
    refine g_if_lt X (tgt := 122) dX3_take_82 (by decide) q4 (fun c5 => ?_) (fun c5 => ?_)
    · have h := h.1 c5
      exact g_vret X hr hlk dX3_take_122 ⟨rfl, h⟩
    · have h := h.2 c5
      refine g_iload X 0 dX3_take_85 rfl ?_
      refine g_aload_n X 1 dX3_take_87 rfl ?_
      refine g_getF X (f := 15) dX3_take_88 lf_X3_21 rfl rfl rfl ?_
      refine g_alen1 X (z := 10) dX3_take_91 rfl rfl ?_
      refine g_icmp_ge X (tgt := 122) dX3_take_92 (by decide) q4 (by omega) (fun c6 => ?_) (fun c6 => ?_)
      · have h := h.1 c6
        exact g_vret X hr hlk dX3_take_122 ⟨rfl, h⟩
      · have h := h.2 c6
        refine g_aload_n X 1 dX3_take_95 rfl ?_
        refine g_getF X (f := 15) dX3_take_96 lf_X3_21 rfl rfl rfl ?_
        refine g_iload X 0 dX3_take_99 rfl ?_
        obtain ⟨q7, h⟩ := h
        refine g_iald X dX3_take_101 rfl q7.1 q7.2 ?_
        obtain ⟨q8, h⟩ := h
        refine g_if_lt X (tgt := 122) dX3_take_102 (by decide) q8 (fun c9 => ?_) (fun c9 => ?_)
        · have h := h.1 c9
          exact g_vret X hr hlk dX3_take_122 ⟨rfl, h⟩
        · have h := h.2 c9
          refine g_aload_n X 1 dX3_take_105 rfl ?_
          refine g_getF X (f := 15) dX3_take_106 lf_X3_21 rfl rfl rfl ?_
          refine g_iload X 0 dX3_take_109 rfl ?_
          refine g_iald X dX3_take_111 rfl q7.1 q7.2 ?_
          refine g_aload_n X 1 dX3_take_112 rfl ?_
          refine g_getP X dX3_take_113 lf_X3_12 rfl rfl (fun c11 => ?_) (fun r10 c11 => ?_)
          · have h := h.1 c11
            exact h.elim
          · obtain ⟨q12, h⟩ := h.2 r10 c11
            refine g_getI X (z := 3) dX3_take_116 lf_X3_35 q12 rfl rfl ?_
            obtain ⟨q13, h⟩ := h
            refine g_icmp_lt X (tgt := 123) dX3_take_119 (by decide) q8 q13 (fun c14 => ?_) (fun c14 => ?_)
            · have h := h.1 c14
              refine g_aload_n X 1 dX3_take_123 rfl ?_
              refine g_getF X (f := 15) dX3_take_124 lf_X3_21 rfl rfl rfl ?_
              refine g_iload X 0 dX3_take_127 rfl ?_
              refine g_iald X dX3_take_129 rfl q7.1 q7.2 ?_
              refine g_istore X (lv' := [(9, .int (iI (gI s2 15 x3))), (8, .int (iI x3)), (0, .ref 14), (1, .long (lI v1)), (3, .int (iI v3)), (4, .long (lI v4)), (6, .int (iI v6)), (7, .int (iI v7))]) dX3_take_130 (by decide) rfl ?_
              refine g_aload_n X 2 dX3_take_132 rfl ?_
              refine g_getPs X dX3_take_133 lf_X3_12 rfl rfl c11 ?_
              refine g_getF X (f := (r10 + 2)) dX3_take_136 lf_X3_58 q12 rfl (fn_5_0 q12) ?_
              refine g_iload X 0 dX3_take_139 rfl ?_
              obtain ⟨q17, h⟩ := h
              refine g_lald X dX3_take_141 (sf_5_0 q12) q17.1 q17.2 ?_
              refine g_iload X 1 dX3_take_142 rfl ?_
              refine g_i2l X dX3_take_144 q4 ?_
              refine g_lload_n X 3 dX3_take_145 rfl ?_
              refine g_lmul X dX3_take_146 ?_
              refine g_lsub X dX3_take_147 ?_
              refine g_lstore X (lv' := [(10, .long (lI ((gL s2 (r10 + 2) (gI s2 15 x3)) - (x3 * v1)))), (9, .int (iI (gI s2 15 x3))), (8, .int (iI x3)), (0, .ref 14), (1, .long (lI v1)), (3, .int (iI v3)), (4, .long (lI v4)), (6, .int (iI v6)), (7, .int (iI v7))]) dX3_take_148 (by decide) rfl ?_
              refine g_lload X 0 dX3_take_150 rfl ?_
              refine g_lload X 6 dX3_take_152 rfl ?_
              obtain ⟨q18, h⟩ := h
              refine g_lc_le X (tgt := 159) dX3_take_154 dX3_take_155 (by decide) q18 h64v4 (fun c19 => ?_) (fun c19 => ?_)
              · have h := h.1 c19
                refine g_aload_n X 3 dX3_take_159 rfl ?_
                refine g_getP X dX3_take_160 lf_X3_18 rfl rfl (fun c21 => ?_) (fun r20 c21 => ?_)
                · have h := h.1 c21
                  refine g_lload X 0 dX3_take_163 rfl ?_
                  refine g_aload_n X 3 dX3_take_165 rfl ?_
                  refine g_getPs X dX3_take_166 lf_X3_12 rfl rfl c11 ?_
                  refine g_getF X (f := (r10 + 4)) dX3_take_169 lf_X3_61 q12 rfl (fn_5_1 q12) ?_
                  refine g_iload X 1 dX3_take_172 rfl ?_
                  refine g_lald X dX3_take_174 (sf_5_1 q12) q17.1 q17.2 ?_
                  refine g_aload_n X 3 dX3_take_175 rfl ?_
                  refine g_getPs X dX3_take_176 lf_X3_12 rfl rfl c11 ?_
                  refine g_getF X (f := (r10 + 6)) dX3_take_179 lf_X3_64 q12 rfl (fn_5_2 q12) ?_
                  refine g_iload X 1 dX3_take_182 rfl ?_
                  refine g_iald X dX3_take_184 (sf_5_2 q12) q17.1 q17.2 ?_
                  refine g_iload X 2 dX3_take_185 rfl ?_
                  refine g_iadd X dX3_take_187 ?_
                  exact h.elim
                · obtain ⟨q26, h⟩ := h.2 r20 c21
                  refine g_lload X 0 dX3_take_163 rfl ?_
                  refine g_aload_n X 3 dX3_take_165 rfl ?_
                  refine g_getPs X dX3_take_166 lf_X3_12 rfl rfl c11 ?_
                  refine g_getF X (f := (r10 + 4)) dX3_take_169 lf_X3_61 q12 rfl (fn_5_1 q12) ?_
                  refine g_iload X 1 dX3_take_172 rfl ?_
                  refine g_lald X dX3_take_174 (sf_5_1 q12) q17.1 q17.2 ?_
                  refine g_aload_n X 3 dX3_take_175 rfl ?_
                  refine g_getPs X dX3_take_176 lf_X3_12 rfl rfl c11 ?_
                  refine g_getF X (f := (r10 + 6)) dX3_take_179 lf_X3_64 q12 rfl (fn_5_2 q12) ?_
                  refine g_iload X 1 dX3_take_182 rfl ?_
                  refine g_iald X dX3_take_184 (sf_5_2 q12) q17.1 q17.2 ?_
                  refine g_iload X 2 dX3_take_185 rfl ?_
                  refine g_iadd X dX3_take_187 ?_
                  refine g_cVV X (K := K_X5_add) [.long (lI ((gL s2 (r10 + 2) (gI s2 15 x3)) - (x3 * v1))), .long (lI (gL s2 (r10 + 4) (gI s2 15 x3))), .int (iI ((gI s2 (r10 + 6) (gI s2 15 x3)) + x3))] [] dX3_take_188 lv_X3_39 rm_X3_take_X5_add ⟨by decide, by decide⟩ adA_id q26 rfl rfl (Nat.le_of_ble_eq_true rfl) rfl h (fun s31 h => ?_)
                  refine g_aload_n X 3 dX3_take_191 rfl ?_
                  refine g_getF X (f := 15) dX3_take_192 lf_X3_21 rfl rfl rfl ?_
                  refine g_iload X 2 dX3_take_195 rfl ?_
                  refine g_dup2 X dX3_take_197 rfl rfl ?_
                  refine g_iald X dX3_take_198 rfl q7.1 q7.2 ?_
                  refine g_iconst X dX3_take_199 ?_
                  refine g_iadd X dX3_take_200 ?_
                  refine g_iast X dX3_take_201 rfl q7.1 q7.2 ?_
                  refine g_iinc X (x := v7) (lv' := [(7, .int (iI (v7 + 1))), (10, .long (lI ((gL s2 (r10 + 2) (gI s2 15 x3)) - (x3 * v1)))), (9, .int (iI (gI s2 15 x3))), (8, .int (iI x3)), (0, .ref 14), (1, .long (lI v1)), (3, .int (iI v3)), (4, .long (lI v4)), (6, .int (iI v6))]) 8 dX3_take_202 rfl (by decide) rfl ?_
                  refine g_goto X (tgt := 65) dX3_take_205 (by decide) ?_
                  exact g_sub (lv' := [(0, .ref 14), (1, .long (lI v1)), (3, .int (iI v3)), (4, .long (lI v4)), (6, .int (iI v6)), (7, .int (iI (v7 + 1)))]) [4, 5, 6, 7, 8, 0] rfl (h p l e s m args below meth c D cA ad X0 hr hlk)
              · have h := h.2 c19
                exact g_vret X hr hlk dX3_take_158 ⟨rfl, h⟩
            · have h := h.2 c14
              exact g_vret X hr hlk dX3_take_122 ⟨rfl, h⟩
theorem bX3_make_0 {a1 : Nat} {v2 : Int} {v4 : Int} {σ : ASt} {Qn : ASt → Prop} {Qs : Nat → ASt → Prop} (ha1 : shp a1 = (0, 0, 0)) (h : Wx K_X3_make (QR 5 Qn Qs) 6 [(0, .ref 14), (1, .ref a1), (2, .long (lI v2)), (4, .int (iI v4)), (5, .long (lI 0)), (7, .int (iI 0))] [] σ) : Wx K_X3_make (QR 5 Qn Qs) 0 [(0, .ref 14), (1, .ref a1), (2, .long (lI v2)), (4, .int (iI v4))] [] σ := by
  intro p l e s m args below meth c D cA ad X0 hr hlk
  have X : Cx p s m args c (adA ad) D cA ad RX3 cX3_make 9 := X0
  refine g_lconst X (z := 0) dX3_make_0 (by decide +kernel) ?_
  refine g_lstore X (lv' := [(5, .long (lI 0)), (0, .ref 14), (1, .ref a1), (2, .long (lI v2)), (4, .int (iI v4))]) dX3_make_1 (by decide) rfl ?_
  refine g_iconst X dX3_make_3 ?_
  refine g_istore X (lv' := [(7, .int (iI 0)), (5, .long (lI 0)), (0, .ref 14), (1, .ref a1), (2, .long (lI v2)), (4, .int (iI v4))]) dX3_make_4 (by decide) rfl ?_
  exact g_sub (lv' := [(0, .ref 14), (1, .ref a1), (2, .long (lI v2)), (4, .int (iI v4)), (5, .long (lI 0)), (7, .int (iI 0))]) [2, 3, 4, 5, 1, 0] rfl (h p l e s m args below meth c D cA ad X0 hr hlk)
theorem eX3_make {a1 : Nat} {v2 : Int} {v4 : Int} {σ : ASt} {Qn : ASt → Prop} {Qs : Nat → ASt → Prop} (ha1 : shp a1 = (0, 0, 0)) (h : Wx K_X3_make (QR 5 Qn Qs) 6 [(0, .ref 14), (1, .ref a1), (2, .long (lI v2)), (4, .int (iI v4)), (5, .long (lI 0)), (7, .int (iI 0))] [] σ) : EvR 5 K_X3_make [.ref 14, .ref a1, .long (lI v2), .int (iI v4)] σ Qn Qs := Ev.of rfl (Nat.le_of_ble_eq_true rfl) rfl (bX3_make_0 ha1 h)
theorem bX3_make_6 {a1 : Nat} {v2 : Int} {v4 : Int} {v5 : Int} {v7 : Int} {σ : ASt} {Qn : ASt → Prop} {Qs : Nat → ASt → Prop} (ha1 : shp a1 = (0, 0, 0)) (h32v4 : i32 v4) (h32v7 : i32 v7) (h : ((43 ≤ v7 → ((gP σ 14 1 = none → False) ∧ (∀ r2 : Nat, gP σ 14 1 = some r2 → shp r2 = (0, 5, 0) ∧ ((gP (sI σ r2 3 0) 14 1 = none → False) ∧ (∀ r5 : Nat, gP (sI σ r2 3 0) 14 1 = some r5 → shp r5 = (0, 5, 0) ∧ EvV K_X5_add [.ref r5, .long (lI v2), .long (lI 1), .int (iI 0)] (sI σ r2 3 0) (fun s8 => Wx K_X3_make (QR 5 Qn Qs) 70 [(0, .ref 14), (1, .ref a1), (4, .int (iI v4)), (5, .long (lI v5)), (7, .int (iI ((gI s8 a1 4) - 1)))] [] s8)))))) ∧ (v7 < 43 → EvZ K_X0_hasPlace [.ref a1, .int (iI v7)] σ (fun s9 => ((0 : Int) ≤ v7 ∧ v7 < 43) ∧ Wx K_X3_make (QR 5 Qn Qs) 6 [(0, .ref 14), (1, .ref a1), (2, .long (lI v2)), (4, .int (iI v4)), (5, .long (lI (v5 + (v4 * (gL s9 (a1 + 12) v7))))), (7, .int (iI (v7 + 1)))] [] s9) (fun s9 => ((gP s9 14 1 = none → False) ∧ (∀ r11 : Nat, gP s9 14 1 = some r11 → shp r11 = (0, 5, 0) ∧ ((gP (sI s9 r11 3 0) 14 1 = none → False) ∧ (∀ r14 : Nat, gP (sI s9 r11 3 0) 14 1 = some r14 → shp r14 = (0, 5, 0) ∧ EvV K_X5_add [.ref r14, .long (lI v2), .long (lI 1), .int (iI 0)] (sI s9 r11 3 0) (fun s17 => Wx K_X3_make (QR 5 Qn Qs) 70 [(0, .ref 14), (1, .ref a1), (4, .int (iI v4)), (5, .long (lI v5)), (7, .int (iI ((gI s17 a1 4) - 1)))] [] s17))))))))) : Wx K_X3_make (QR 5 Qn Qs) 6 [(0, .ref 14), (1, .ref a1), (2, .long (lI v2)), (4, .int (iI v4)), (5, .long (lI v5)), (7, .int (iI v7))] [] σ := by
  intro p l e s m args below meth c D cA ad X0 hr hlk
  have X : Cx p s m args c (adA ad) D cA ad RX3 cX3_make 9 := X0
  refine g_iload X 5 dX3_make_6 rfl ?_
  refine g_bipush X dX3_make_8 (by decide +kernel) ?_
  refine g_icmp_ge X (tgt := 44) dX3_make_10 (by decide) h32v7 (by omega) (fun c1 => ?_) (fun c1 => ?_)
  · have h := h.1 c1
    refine g_aload_n X 0 dX3_make_44 rfl ?_
    refine g_getP X dX3_make_45 lf_X3_18 rfl rfl (fun c3 => ?_) (fun r2 c3 => ?_)
    · have h := h.1 c3
      refine g_iconst X dX3_make_48 ?_
      exact h.elim
    · obtain ⟨q4, h⟩ := h.2 r2 c3
      refine g_iconst X dX3_make_48 ?_
      refine g_putI X (j := 3) (z := 3) dX3_make_49 lp_X3_35 q4 rfl rfl ?_
      refine g_aload_n X 0 dX3_make_52 rfl ?_
      refine g_getP X dX3_make_53 lf_X3_18 rfl rfl (fun c6 => ?_) (fun r5 c6 => ?_)
      · have h := h.1 c6
        refine g_lload_n X 2 dX3_make_56 rfl ?_
        refine g_lconst X (z := 1) dX3_make_57 (by decide +kernel) ?_
        refine g_iconst X dX3_make_58 ?_
        exact h.elim
      · obtain ⟨q7, h⟩ := h.2 r5 c6
        refine g_lload_n X 2 dX3_make_56 rfl ?_
        refine g_lconst X (z := 1) dX3_make_57 (by decide +kernel) ?_
        refine g_iconst X dX3_make_58 ?_
        refine g_cVV X (K := K_X5_add) [.long (lI v2), .long (lI 1), .int (iI 0)] [] dX3_make_59 lv_X3_39 rm_X3_make_X5_add ⟨by decide, by decide⟩ adA_id q7 rfl rfl (Nat.le_of_ble_eq_true rfl) rfl h (fun s8 h => ?_)
        refine g_aload_n X 1 dX3_make_62 rfl ?_
        refine g_getI X (z := 4) dX3_make_63 lf_X3_43 ha1 rfl rfl ?_
        refine g_iconst X dX3_make_66 ?_
        refine g_isub X dX3_make_67 ?_
        refine g_istore X (lv' := [(7, .int (iI ((gI s8 a1 4) - 1))), (0, .ref 14), (1, .ref a1), (2, .long (lI v2)), (4, .int (iI v4)), (5, .long (lI v5))]) dX3_make_68 (by decide) rfl ?_
        exact g_sub (lv' := [(0, .ref 14), (1, .ref a1), (4, .int (iI v4)), (5, .long (lI v5)), (7, .int (iI ((gI s8 a1 4) - 1)))]) [1, 2, 4, 5, 0] rfl (h p l e s m args below meth c D cA ad X0 hr hlk)
  · have h := h.2 c1
    refine g_aload_n X 1 dX3_make_13 rfl ?_
    refine g_iload X 5 dX3_make_14 rfl ?_
    refine g_cVZ X (K := K_X0_hasPlace) [.int (iI v7)] [] dX3_make_16 lv_X3_25 rm_X3_make_X0_hasPlace ⟨by decide, by decide⟩ adA_id ha1 rfl rfl (Nat.le_of_ble_eq_true rfl) rfl h (fun s9 h => ?_) (fun s9 h => ?_)
    · skip
      refine g_if_eq X (tgt := 44) dX3_make_19 (by decide) (by omega) (fun hc => absurd hc (by decide)) (fun _ => ?_)
      refine g_lload X 4 dX3_make_22 rfl ?_
      refine g_iload X 3 dX3_make_24 rfl ?_
      refine g_i2l X dX3_make_26 h32v4 ?_
      refine g_aload_n X 1 dX3_make_27 rfl ?_
      refine g_getF X (f := (a1 + 12)) dX3_make_28 lf_X3_31 ha1 rfl (fn_0_2 ha1) ?_
      refine g_iload X 5 dX3_make_31 rfl ?_
      obtain ⟨q10, h⟩ := h
      refine g_lald X dX3_make_33 (sf_0_2 ha1) q10.1 q10.2 ?_
      refine g_lmul X dX3_make_34 ?_
      refine g_ladd X dX3_make_35 ?_
      refine g_lstore X (lv' := [(5, .long (lI (v5 + (v4 * (gL s9 (a1 + 12) v7))))), (0, .ref 14), (1, .ref a1), (2, .long (lI v2)), (4, .int (iI v4)), (7, .int (iI v7))]) dX3_make_36 (by decide) rfl ?_
      refine g_iinc X (x := v7) (lv' := [(7, .int (iI (v7 + 1))), (5, .long (lI (v5 + (v4 * (gL s9 (a1 + 12) v7))))), (0, .ref 14), (1, .ref a1), (2, .long (lI v2)), (4, .int (iI v4))]) 5 dX3_make_38 rfl (by decide) rfl ?_
      refine g_goto X (tgt := 6) dX3_make_41 (by decide) ?_
      exact g_sub (lv' := [(0, .ref 14), (1, .ref a1), (2, .long (lI v2)), (4, .int (iI v4)), (5, .long (lI (v5 + (v4 * (gL s9 (a1 + 12) v7))))), (7, .int (iI (v7 + 1)))]) [2, 3, 4, 5, 1, 0] rfl (h p l e s m args below meth c D cA ad X0 hr hlk)
    · skip
      refine g_if_eq X (tgt := 44) dX3_make_19 (by decide) (by omega) (fun _ => ?_) (fun hc => absurd hc (by decide))
      refine g_aload_n X 0 dX3_make_44 rfl ?_
      refine g_getP X dX3_make_45 lf_X3_18 rfl rfl (fun c12 => ?_) (fun r11 c12 => ?_)
      · have h := h.1 c12
        refine g_iconst X dX3_make_48 ?_
        exact h.elim
      · obtain ⟨q13, h⟩ := h.2 r11 c12
        refine g_iconst X dX3_make_48 ?_
        refine g_putI X (j := 3) (z := 3) dX3_make_49 lp_X3_35 q13 rfl rfl ?_
        refine g_aload_n X 0 dX3_make_52 rfl ?_
        refine g_getP X dX3_make_53 lf_X3_18 rfl rfl (fun c15 => ?_) (fun r14 c15 => ?_)
        · have h := h.1 c15
          refine g_lload_n X 2 dX3_make_56 rfl ?_
          refine g_lconst X (z := 1) dX3_make_57 (by decide +kernel) ?_
          refine g_iconst X dX3_make_58 ?_
          exact h.elim
        · obtain ⟨q16, h⟩ := h.2 r14 c15
          refine g_lload_n X 2 dX3_make_56 rfl ?_
          refine g_lconst X (z := 1) dX3_make_57 (by decide +kernel) ?_
          refine g_iconst X dX3_make_58 ?_
          refine g_cVV X (K := K_X5_add) [.long (lI v2), .long (lI 1), .int (iI 0)] [] dX3_make_59 lv_X3_39 rm_X3_make_X5_add ⟨by decide, by decide⟩ adA_id q16 rfl rfl (Nat.le_of_ble_eq_true rfl) rfl h (fun s17 h => ?_)
          refine g_aload_n X 1 dX3_make_62 rfl ?_
          refine g_getI X (z := 4) dX3_make_63 lf_X3_43 ha1 rfl rfl ?_
          refine g_iconst X dX3_make_66 ?_
          refine g_isub X dX3_make_67 ?_
          refine g_istore X (lv' := [(7, .int (iI ((gI s17 a1 4) - 1))), (0, .ref 14), (1, .ref a1), (2, .long (lI v2)), (4, .int (iI v4)), (5, .long (lI v5))]) dX3_make_68 (by decide) rfl ?_
          exact g_sub (lv' := [(0, .ref 14), (1, .ref a1), (4, .int (iI v4)), (5, .long (lI v5)), (7, .int (iI ((gI s17 a1 4) - 1)))]) [1, 2, 4, 5, 0] rfl (h p l e s m args below meth c D cA ad X0 hr hlk)
theorem bX3_make_70 {a1 : Nat} {v4 : Int} {v5 : Int} {v7 : Int} {σ : ASt} {Qn : ASt → Prop} {Qs : Nat → ASt → Prop} (ha1 : shp a1 = (0, 0, 0)) (h32v4 : i32 v4) (h32v7 : i32 v7) (h : ((v7 < 0 → ((gP σ 14 1 = none → Qn σ) ∧ (∀ r2 : Nat, gP σ 14 1 = some r2 → shp r2 = (0, 5, 0) ∧ Qs r2 σ))) ∧ (0 ≤ v7 → EvZ K_X0_hasPlace [.ref a1, .int (iI v7)] σ (fun s5 => ((0 : Int) ≤ v7 ∧ v7 < 43) ∧ ((gP s5 14 1 = none → ((gP s5 14 0 = none → EvV K_X3_take [.ref 14, .long (lI (gL (sP (sP s5 14 1 none) 14 0 none) (a1 + 12) v7)), .int (iI v4), .long (lI (v5 - (v4 * (gL s5 (a1 + 12) v7))))] (sP (sP s5 14 1 none) 14 0 none) (fun s11 => Wx K_X3_make (QR 5 Qn Qs) 70 [(0, .ref 14), (1, .ref a1), (4, .int (iI v4)), (5, .long (lI (v5 - (v4 * (gL s5 (a1 + 12) v7))))), (7, .int (iI (v7 + (-1))))] [] s11)) ∧ (∀ r9 : Nat, gP s5 14 0 = some r9 → shp r9 = (0, 5, 0) ∧ EvV K_X3_take [.ref 14, .long (lI (gL (sP (sP s5 14 1 (some r9)) 14 0 none) (a1 + 12) v7)), .int (iI v4), .long (lI (v5 - (v4 * (gL s5 (a1 + 12) v7))))] (sP (sP s5 14 1 (some r9)) 14 0 none) (fun s13 => Wx K_X3_make (QR 5 Qn Qs) 70 [(0, .ref 14), (1, .ref a1), (4, .int (iI v4)), (5, .long (lI (v5 - (v4 * (gL s5 (a1 + 12) v7))))), (7, .int (iI (v7 + (-1))))] [] s13)))) ∧ (∀ r7 : Nat, gP s5 14 1 = some r7 → shp r7 = (0, 5, 0) ∧ ((gP s5 14 0 = none → EvV K_X3_take [.ref 14, .long (lI (gL (sP (sP s5 14 1 none) 14 0 (some r7)) (a1 + 12) v7)), .int (iI v4), .long (lI (v5 - (v4 * (gL s5 (a1 + 12) v7))))] (sP (sP s5 14 1 none) 14 0 (some r7)) (fun s17 => Wx K_X3_make (QR 5 Qn Qs) 70 [(0, .ref 14), (1, .ref a1), (4, .int (iI v4)), (5, .long (lI (v5 - (v4 * (gL s5 (a1 + 12) v7))))), (7, .int (iI (v7 + (-1))))] [] s17)) ∧ (∀ r15 : Nat, gP s5 14 0 = some r15 → shp r15 = (0, 5, 0) ∧ EvV K_X3_take [.ref 14, .long (lI (gL (sP (sP s5 14 1 (some r15)) 14 0 (some r7)) (a1 + 12) v7)), .int (iI v4), .long (lI (v5 - (v4 * (gL s5 (a1 + 12) v7))))] (sP (sP s5 14 1 (some r15)) 14 0 (some r7)) (fun s19 => Wx K_X3_make (QR 5 Qn Qs) 70 [(0, .ref 14), (1, .ref a1), (4, .int (iI v4)), (5, .long (lI (v5 - (v4 * (gL s5 (a1 + 12) v7))))), (7, .int (iI (v7 + (-1))))] [] s19)))))) (fun s5 => ((gP s5 14 1 = none → Qn s5) ∧ (∀ r20 : Nat, gP s5 14 1 = some r20 → shp r20 = (0, 5, 0) ∧ Qs r20 s5)))))) : Wx K_X3_make (QR 5 Qn Qs) 70 [(0, .ref 14), (1, .ref a1), (4, .int (iI v4)), (5, .long (lI v5)), (7, .int (iI v7))] [] σ := by
  intro p l e s m args below meth c D cA ad X0 hr hlk
  have X : Cx p s m args c (adA ad) D cA ad RX3 cX3_make 9 := X0
  refine g_iload X 4 dX3_make_70 rfl ?_
  refine g_if_lt X (tgt := 141) dX3_make_72 (by decide) h32v7 (fun c1 => ?_) (fun c1 => ?_)
  · have h := h.1 c1
    refine g_aload_n X 0 dX3_make_141 rfl ?_
    refine g_getP X dX3_make_142 lf_X3_18 rfl rfl (fun c3 => ?_) (fun r2 c3 => ?_)
    · have h := h.1 c3
      exact g_aretN X hr hlk dX3_make_145 (Or.inl ⟨rfl, h⟩)
    · obtain ⟨q4, h⟩ := h.2 r2 c3
      exact g_aret X hr hlk dX3_make_145 (Or.inr ⟨_, rfl, q4, h⟩)
  · have h := h.2 c1
    refine g_aload_n X 1 dX3_make_75 rfl ?_
    refine g_iload X 4 dX3_make_76 rfl ?_
    refine g_cVZ X (K := K_X0_hasPlace) [.int (iI v7)] [] dX3_make_78 lv_X3_25 rm_X3_make_X0_hasPlace ⟨by decide, by decide⟩ adA_id ha1 rfl rfl (Nat.le_of_ble_eq_true rfl) rfl h (fun s5 h => ?_) (fun s5 h => ?_)
    · skip
      refine g_if_eq X (tgt := 141) dX3_make_81 (by decide) (by omega) (fun hc => absurd hc (by decide)) (fun _ => ?_)
      refine g_lload X 3 dX3_make_84 rfl ?_
      refine g_iload X 2 dX3_make_86 rfl ?_
      refine g_i2l X dX3_make_88 h32v4 ?_
      refine g_aload_n X 1 dX3_make_89 rfl ?_
      refine g_getF X (f := (a1 + 12)) dX3_make_90 lf_X3_31 ha1 rfl (fn_0_2 ha1) ?_
      refine g_iload X 4 dX3_make_93 rfl ?_
      obtain ⟨q6, h⟩ := h
      refine g_lald X dX3_make_95 (sf_0_2 ha1) q6.1 q6.2 ?_
      refine g_lmul X dX3_make_96 ?_
      refine g_lsub X dX3_make_97 ?_
      refine g_lstore X (lv' := [(5, .long (lI (v5 - (v4 * (gL s5 (a1 + 12) v7))))), (0, .ref 14), (1, .ref a1), (4, .int (iI v4)), (7, .int (iI v7))]) dX3_make_98 (by decide) rfl ?_
      refine g_aload_n X 1 dX3_make_100 rfl ?_
      refine g_getP X dX3_make_101 lf_X3_18 rfl rfl (fun c8 => ?_) (fun r7 c8 => ?_)
      · have h := h.1 c8
        refine g_astoreN X (lv' := [(8, .null), (5, .long (lI (v5 - (v4 * (gL s5 (a1 + 12) v7))))), (0, .ref 14), (1, .ref a1), (4, .int (iI v4)), (7, .int (iI v7))]) dX3_make_104 (by decide) rfl ?_
        refine g_aload_n X 2 dX3_make_106 rfl ?_
        refine g_aload_n X 2 dX3_make_107 rfl ?_
        refine g_getP X dX3_make_108 lf_X3_12 rfl rfl (fun c10 => ?_) (fun r9 c10 => ?_)
        · have h := h.1 c10
          refine g_putP X (r := none) dX3_make_111 lp_X3_18 rfl rfl rfl ?_
          refine g_aload_n X 2 dX3_make_114 rfl ?_
          refine g_aloadN X 0 dX3_make_115 rfl ?_
          refine g_putP X (r := none) dX3_make_117 lp_X3_12 rfl rfl rfl ?_
          refine g_aload_n X 2 dX3_make_120 rfl ?_
          refine g_aload_n X 3 dX3_make_121 rfl ?_
          refine g_getF X (f := (a1 + 12)) dX3_make_122 lf_X3_31 ha1 rfl (fn_0_2 ha1) ?_
          refine g_iload X 5 dX3_make_125 rfl ?_
          refine g_lald X dX3_make_127 (sf_0_2 ha1) q6.1 q6.2 ?_
          refine g_iload X 4 dX3_make_128 rfl ?_
          refine g_lload X 1 dX3_make_130 rfl ?_
          refine g_cVV X (K := K_X3_take) [.long (lI (gL (sP (sP s5 14 1 none) 14 0 none) (a1 + 12) v7)), .int (iI v4), .long (lI (v5 - (v4 * (gL s5 (a1 + 12) v7))))] [] dX3_make_132 lv_X3_46 rm_X3_make_X3_take ⟨by decide, by decide⟩ adA_id rfl rfl rfl (Nat.le_of_ble_eq_true rfl) rfl h (fun s11 h => ?_)
          refine g_iinc X (x := v7) (lv' := [(7, .int (iI (v7 + (-1)))), (8, .null), (5, .long (lI (v5 - (v4 * (gL s5 (a1 + 12) v7))))), (0, .ref 14), (1, .ref a1), (4, .int (iI v4))]) 5 dX3_make_135 rfl (by decide) rfl ?_
          refine g_goto X (tgt := 70) dX3_make_138 (by decide) ?_
          exact g_sub (lv' := [(0, .ref 14), (1, .ref a1), (4, .int (iI v4)), (5, .long (lI (v5 - (v4 * (gL s5 (a1 + 12) v7))))), (7, .int (iI (v7 + (-1))))]) [3, 4, 5, 2, 0] rfl (h p l e s m args below meth c D cA ad X0 hr hlk)
        · obtain ⟨q12, h⟩ := h.2 r9 c10
          refine g_putP X (r := (some r9)) dX3_make_111 lp_X3_18 rfl rfl rfl ?_
          refine g_aload_n X 2 dX3_make_114 rfl ?_
          refine g_aloadN X 0 dX3_make_115 rfl ?_
          refine g_putP X (r := none) dX3_make_117 lp_X3_12 rfl rfl rfl ?_
          refine g_aload_n X 2 dX3_make_120 rfl ?_
          refine g_aload_n X 3 dX3_make_121 rfl ?_
          refine g_getF X (f := (a1 + 12)) dX3_make_122 lf_X3_31 ha1 rfl (fn_0_2 ha1) ?_
          refine g_iload X 5 dX3_make_125 rfl ?_
          refine g_lald X dX3_make_127 (sf_0_2 ha1) q6.1 q6.2 ?_
          refine g_iload X 4 dX3_make_128 rfl ?_
          refine g_lload X 1 dX3_make_130 rfl ?_
          refine g_cVV X (K := K_X3_take) [.long (lI (gL (sP (sP s5 14 1 (some r9)) 14 0 none) (a1 + 12) v7)), .int (iI v4), .long (lI (v5 - (v4 * (gL s5 (a1 + 12) v7))))] [] dX3_make_132 lv_X3_46 rm_X3_make_X3_take ⟨by decide, by decide⟩ adA_id rfl rfl rfl (Nat.le_of_ble_eq_true rfl) rfl h (fun s13 h => ?_)
          refine g_iinc X (x := v7) (lv' := [(7, .int (iI (v7 + (-1)))), (8, .null), (5, .long (lI (v5 - (v4 * (gL s5 (a1 + 12) v7))))), (0, .ref 14), (1, .ref a1), (4, .int (iI v4))]) 5 dX3_make_135 rfl (by decide) rfl ?_
          refine g_goto X (tgt := 70) dX3_make_138 (by decide) ?_
          exact g_sub (lv' := [(0, .ref 14), (1, .ref a1), (4, .int (iI v4)), (5, .long (lI (v5 - (v4 * (gL s5 (a1 + 12) v7))))), (7, .int (iI (v7 + (-1))))]) [3, 4, 5, 2, 0] rfl (h p l e s m args below meth c D cA ad X0 hr hlk)
      · obtain ⟨q14, h⟩ := h.2 r7 c8
        refine g_astore X (lv' := [(8, .ref r7), (5, .long (lI (v5 - (v4 * (gL s5 (a1 + 12) v7))))), (0, .ref 14), (1, .ref a1), (4, .int (iI v4)), (7, .int (iI v7))]) dX3_make_104 (by decide) rfl ?_
        refine g_aload_n X 2 dX3_make_106 rfl ?_
        refine g_aload_n X 2 dX3_make_107 rfl ?_
        refine g_getP X dX3_make_108 lf_X3_12 rfl rfl (fun c16 => ?_) (fun r15 c16 => ?_)
        · have h := h.1 c16
          refine g_putP X (r := none) dX3_make_111 lp_X3_18 rfl rfl rfl ?_
          refine g_aload_n X 2 dX3_make_114 rfl ?_
          refine g_aload X 0 dX3_make_115 rfl ?_
          refine g_putP X (r := (some r7)) dX3_make_117 lp_X3_12 rfl rfl rfl ?_
          refine g_aload_n X 2 dX3_make_120 rfl ?_
          refine g_aload_n X 3 dX3_make_121 rfl ?_
          refine g_getF X (f := (a1 + 12)) dX3_make_122 lf_X3_31 ha1 rfl (fn_0_2 ha1) ?_
          refine g_iload X 5 dX3_make_125 rfl ?_
          refine g_lald X dX3_make_127 (sf_0_2 ha1) q6.1 q6.2 ?_
          refine g_iload X 4 dX3_make_128 rfl ?_
          refine g_lload X 1 dX3_make_130 rfl ?_
          refine g_cVV X (K := K_X3_take) [.long (lI (gL (sP (sP s5 14 1 none) 14 0 (some r7)) (a1 + 12) v7)), .int (iI v4), .long (lI (v5 - (v4 * (gL s5 (a1 + 12) v7))))] [] dX3_make_132 lv_X3_46 rm_X3_make_X3_take ⟨by decide, by decide⟩ adA_id rfl rfl rfl (Nat.le_of_ble_eq_true rfl) rfl h (fun s17 h => ?_)
          refine g_iinc X (x := v7) (lv' := [(7, .int (iI (v7 + (-1)))), (8, .ref r7), (5, .long (lI (v5 - (v4 * (gL s5 (a1 + 12) v7))))), (0, .ref 14), (1, .ref a1), (4, .int (iI v4))]) 5 dX3_make_135 rfl (by decide) rfl ?_
          refine g_goto X (tgt := 70) dX3_make_138 (by decide) ?_
          exact g_sub (lv' := [(0, .ref 14), (1, .ref a1), (4, .int (iI v4)), (5, .long (lI (v5 - (v4 * (gL s5 (a1 + 12) v7))))), (7, .int (iI (v7 + (-1))))]) [3, 4, 5, 2, 0] rfl (h p l e s m args below meth c D cA ad X0 hr hlk)
        · obtain ⟨q18, h⟩ := h.2 r15 c16
          refine g_putP X (r := (some r15)) dX3_make_111 lp_X3_18 rfl rfl rfl ?_
          refine g_aload_n X 2 dX3_make_114 rfl ?_
          refine g_aload X 0 dX3_make_115 rfl ?_
          refine g_putP X (r := (some r7)) dX3_make_117 lp_X3_12 rfl rfl rfl ?_
          refine g_aload_n X 2 dX3_make_120 rfl ?_
          refine g_aload_n X 3 dX3_make_121 rfl ?_
          refine g_getF X (f := (a1 + 12)) dX3_make_122 lf_X3_31 ha1 rfl (fn_0_2 ha1) ?_
          refine g_iload X 5 dX3_make_125 rfl ?_
          refine g_lald X dX3_make_127 (sf_0_2 ha1) q6.1 q6.2 ?_
          refine g_iload X 4 dX3_make_128 rfl ?_
          refine g_lload X 1 dX3_make_130 rfl ?_
          refine g_cVV X (K := K_X3_take) [.long (lI (gL (sP (sP s5 14 1 (some r15)) 14 0 (some r7)) (a1 + 12) v7)), .int (iI v4), .long (lI (v5 - (v4 * (gL s5 (a1 + 12) v7))))] [] dX3_make_132 lv_X3_46 rm_X3_make_X3_take ⟨by decide, by decide⟩ adA_id rfl rfl rfl (Nat.le_of_ble_eq_true rfl) rfl h (fun s19 h => ?_)
          refine g_iinc X (x := v7) (lv' := [(7, .int (iI (v7 + (-1)))), (8, .ref r7), (5, .long (lI (v5 - (v4 * (gL s5 (a1 + 12) v7))))), (0, .ref 14), (1, .ref a1), (4, .int (iI v4))]) 5 dX3_make_135 rfl (by decide) rfl ?_
          refine g_goto X (tgt := 70) dX3_make_138 (by decide) ?_
          exact g_sub (lv' := [(0, .ref 14), (1, .ref a1), (4, .int (iI v4)), (5, .long (lI (v5 - (v4 * (gL s5 (a1 + 12) v7))))), (7, .int (iI (v7 + (-1))))]) [3, 4, 5, 2, 0] rfl (h p l e s m args below meth c D cA ad X0 hr hlk)
    · skip
      refine g_if_eq X (tgt := 141) dX3_make_81 (by decide) (by omega) (fun _ => ?_) (fun hc => absurd hc (by decide))
      refine g_aload_n X 0 dX3_make_141 rfl ?_
      refine g_getP X dX3_make_142 lf_X3_18 rfl rfl (fun c21 => ?_) (fun r20 c21 => ?_)
      · have h := h.1 c21
        exact g_aretN X hr hlk dX3_make_145 (Or.inl ⟨rfl, h⟩)
      · obtain ⟨q22, h⟩ := h.2 r20 c21
        exact g_aret X hr hlk dX3_make_145 (Or.inr ⟨_, rfl, q22, h⟩)
