/-! by program: the block rules of class 6 -/
theorem bX6_add_0 {v1 : Int} {σ : ASt} {QT QF : ASt → Prop}  (h : i32 ((gI σ 9 1)) ∧ (((gI σ 9 1) < 80 → ((0 : Int) ≤ (gI σ 9 1) ∧ (gI σ 9 1) < 80) ∧ QT (sI (sI σ 10 (gI σ 9 1) v1) 9 1 ((gI (sI σ 10 (gI σ 9 1) v1) 9 1) + 1))) ∧ (80 ≤ (gI σ 9 1) → QF σ))) : Wx K_X6_add (QZ QT QF) 0 [(0, .ref 9), (1, .int (iI v1))] [] σ := by
  intro p l e s m args below meth c D cA ad X0 hr hlk
  have X : Cx p s m args c (adA ad) D cA ad RX6 cX6_add 2 := X0
  refine g_aload_n X 0 dX6_add_0 rfl ?_
  refine g_getI X (z := 1) dX6_add_1 lf_X6_15 rfl rfl rfl ?_
  refine g_bipush X dX6_add_4 (by decide +kernel) ?_
  obtain ⟨q1, h⟩ := h
  refine g_icmp_lt X (tgt := 11) dX6_add_6 (by decide) q1 (by omega) (fun c2 => ?_) (fun c2 => ?_)
  · have h := h.1 c2
    refine g_aload_n X 0 dX6_add_11 rfl ?_
    refine g_getF X (f := 10) dX6_add_12 lf_X6_11 rfl rfl rfl ?_
    refine g_aload_n X 0 dX6_add_15 rfl ?_
    refine g_getI X (z := 1) dX6_add_16 lf_X6_15 rfl rfl rfl ?_
    refine g_iload_n X 1 dX6_add_19 rfl ?_
    obtain ⟨q3, h⟩ := h
    refine g_iast X dX6_add_20 rfl q3.1 q3.2 ?_
    refine g_aload_n X 0 dX6_add_21 rfl ?_
    refine g_dup X dX6_add_22 rfl ?_
    refine g_getI X (z := 1) dX6_add_23 lf_X6_15 rfl rfl rfl ?_
    refine g_iconst X dX6_add_26 ?_
    refine g_iadd X dX6_add_27 ?_
    refine g_putI X (j := 1) (z := 1) dX6_add_28 lp_X6_15 rfl rfl rfl ?_
    refine g_iconst X dX6_add_31 ?_
    exact g_iret X hr hlk dX6_add_32 rfl (Or.inl ⟨rfl, h⟩)
  · have h := h.2 c2
    refine g_iconst X dX6_add_9 ?_
    exact g_iret X hr hlk dX6_add_10 rfl (Or.inr ⟨rfl, h⟩)
theorem eX6_add {v1 : Int} {σ : ASt} {QT QF : ASt → Prop}  (h : i32 ((gI σ 9 1)) ∧ (((gI σ 9 1) < 80 → ((0 : Int) ≤ (gI σ 9 1) ∧ (gI σ 9 1) < 80) ∧ QT (sI (sI σ 10 (gI σ 9 1) v1) 9 1 ((gI (sI σ 10 (gI σ 9 1) v1) 9 1) + 1))) ∧ (80 ≤ (gI σ 9 1) → QF σ))) : EvZ K_X6_add [.ref 9, .int (iI v1)] σ QT QF := Ev.of rfl (Nat.le_of_ble_eq_true rfl) rfl (bX6_add_0  h)
theorem bX6_isFigure_0 {v0 : Int} {σ : ASt} {QT QF : ASt → Prop}  (h : EvZ K_X7_isWithin [.int (iI v0), .int (iI 48), .int (iI 57)] σ (fun s1 => QT s1) (fun s1 => QF s1)) : Wx K_X6_isFigure (QZ QT QF) 0 [(0, .int (iI v0))] [] σ := by
  intro p l e s m args below meth c D cA ad X0 hr hlk
  have X : Cx p s m args c (adA ad) D cA ad RX6 cX6_isFigure 1 := X0
  refine g_iload_n X 0 dX6_isFigure_0 rfl ?_
  refine g_bipush X dX6_isFigure_1 (by decide +kernel) ?_
  refine g_bipush X dX6_isFigure_3 (by decide +kernel) ?_
  refine g_cNZ X (K := K_X7_isWithin) [.int (iI v0), .int (iI 48), .int (iI 57)] [] dX6_isFigure_5 ln_X6_29 rm_X6_isFigure_X7_isWithin ⟨by decide, by decide⟩ adA_id rfl (Nat.le_of_ble_eq_true rfl) rfl h (fun s1 h => ?_) (fun s1 h => ?_)
  · skip
    exact g_iret X hr hlk dX6_isFigure_8 rfl (Or.inl ⟨rfl, h⟩)
  · skip
    exact g_iret X hr hlk dX6_isFigure_8 rfl (Or.inr ⟨rfl, h⟩)
theorem eX6_isFigure {v0 : Int} {σ : ASt} {QT QF : ASt → Prop}  (h : EvZ K_X7_isWithin [.int (iI v0), .int (iI 48), .int (iI 57)] σ (fun s1 => QT s1) (fun s1 => QF s1)) : EvZ K_X6_isFigure [.int (iI v0)] σ QT QF := Ev.of rfl (Nat.le_of_ble_eq_true rfl) rfl (bX6_isFigure_0  h)
theorem bX6_fault_0 {v1 : Int} {σ : ASt} {Q : Int → ASt → Prop}  (h : Wx K_X6_fault (QI Q) 7 [(0, .ref 9), (1, .int (iI v1)), (2, .int (iI 0)), (3, .int (iI 0)), (4, .int (iI 0))] [] σ) : Wx K_X6_fault (QI Q) 0 [(0, .ref 9), (1, .int (iI v1))] [] σ := by
  intro p l e s m args below meth c D cA ad X0 hr hlk
  have X : Cx p s m args c (adA ad) D cA ad RX6 cX6_fault 5 := X0
  refine g_iconst X dX6_fault_0 ?_
  refine g_istore_n X (lv' := [(2, .int (iI 0)), (0, .ref 9), (1, .int (iI v1))]) dX6_fault_1 (by decide) rfl ?_
  refine g_iconst X dX6_fault_2 ?_
  refine g_istore_n X (lv' := [(3, .int (iI 0)), (2, .int (iI 0)), (0, .ref 9), (1, .int (iI v1))]) dX6_fault_3 (by decide) rfl ?_
  refine g_iconst X dX6_fault_4 ?_
  refine g_istore X (lv' := [(4, .int (iI 0)), (3, .int (iI 0)), (2, .int (iI 0)), (0, .ref 9), (1, .int (iI v1))]) dX6_fault_5 (by decide) rfl ?_
  exact g_sub (lv' := [(0, .ref 9), (1, .int (iI v1)), (2, .int (iI 0)), (3, .int (iI 0)), (4, .int (iI 0))]) [3, 4, 2, 1, 0] rfl (h p l e s m args below meth c D cA ad X0 hr hlk)
theorem eX6_fault {v1 : Int} {σ : ASt} {Q : Int → ASt → Prop}  (h : Wx K_X6_fault (QI Q) 7 [(0, .ref 9), (1, .int (iI v1)), (2, .int (iI 0)), (3, .int (iI 0)), (4, .int (iI 0))] [] σ) : EvI K_X6_fault [.ref 9, .int (iI v1)] σ Q := Ev.of rfl (Nat.le_of_ble_eq_true rfl) rfl (bX6_fault_0  h)
theorem bX6_fault_7 {v1 : Int} {v2 : Int} {v3 : Int} {v4 : Int} {σ : ASt} {Q : Int → ASt → Prop} (h32v1 : i32 v1) (h32v2 : i32 v2) (h32v3 : i32 v3) (h32v4 : i32 v4) (h : i32 ((gI σ 9 1)) ∧ (((gI σ 9 1) ≤ v4 → ((v3 ≠ 0 → Q (-1) σ) ∧ (v3 = 0 → Q (gI σ 9 1) σ))) ∧ (v4 < (gI σ 9 1) → ((80 ≤ v4 → ((v3 ≠ 0 → Q (-1) σ) ∧ (v3 = 0 → Q (gI σ 9 1) σ))) ∧ (v4 < 80 → ((0 : Int) ≤ v4 ∧ v4 < 80) ∧ EvZ K_X6_isFigure [.int (iI (gI σ 10 v4))] σ (fun s7 => ((v3 = 2 → Q v4 s7) ∧ (v3 ≠ 2 → ((v3 ≠ 0 → ((v3 ≠ 0 → Wx K_X6_fault (QI Q) 7 [(0, .ref 9), (1, .int (iI v1)), (2, .int (iI v2)), (3, .int (iI (v3 + 1))), (4, .int (iI (v4 + 1)))] [] s7) ∧ (v3 = 0 → Wx K_X6_fault (QI Q) 7 [(0, .ref 9), (1, .int (iI v1)), (2, .int (iI (v2 + 1))), (3, .int (iI (v3 + 1))), (4, .int (iI (v4 + 1)))] [] s7))) ∧ (v3 = 0 → ((v2 ≠ v1 → ((v3 ≠ 0 → Wx K_X6_fault (QI Q) 7 [(0, .ref 9), (1, .int (iI v1)), (2, .int (iI v2)), (3, .int (iI (v3 + 1))), (4, .int (iI (v4 + 1)))] [] s7) ∧ (v3 = 0 → Wx K_X6_fault (QI Q) 7 [(0, .ref 9), (1, .int (iI v1)), (2, .int (iI (v2 + 1))), (3, .int (iI (v3 + 1))), (4, .int (iI (v4 + 1)))] [] s7))) ∧ (v2 = v1 → Q v4 s7))))))) (fun s7 => i32 ((gI s7 10 v4)) ∧ (((gI s7 10 v4) ≠ 46 → Q v4 s7) ∧ ((gI s7 10 v4) = 46 → ((v3 ≤ 0 → Q v4 s7) ∧ (0 < v3 → Wx K_X6_fault (QI Q) 7 [(0, .ref 9), (1, .int (iI v1)), (2, .int (iI v2)), (3, .int (iI 0)), (4, .int (iI (v4 + 1)))] [] s7)))))))))) : Wx K_X6_fault (QI Q) 7 [(0, .ref 9), (1, .int (iI v1)), (2, .int (iI v2)), (3, .int (iI v3)), (4, .int (iI v4))] [] σ := by
  intro p l e s m args below meth c D cA ad X0 hr hlk
  have X : Cx p s m args c (adA ad) D cA ad RX6 cX6_fault 5 := X0
  refine g_iload X 4 dX6_fault_7 rfl ?_
  refine g_aload_n X 0 dX6_fault_9 rfl ?_
  refine g_getI X (z := 1) dX6_fault_10 lf_X6_15 rfl rfl rfl ?_
  obtain ⟨q1, h⟩ := h
  refine g_icmp_ge X (tgt := 101) dX6_fault_13 (by decide) h32v4 q1 (fun c2 => ?_) (fun c2 => ?_)
  · have h := h.1 c2
    refine g_iload_n X 3 dX6_fault_101 rfl ?_
    refine g_if_ne X (tgt := 112) dX6_fault_102 (by decide) h32v3 (fun c3 => ?_) (fun c3 => ?_)
    · have h := h.1 c3
      refine g_iconst X dX6_fault_112 ?_
      exact g_iret X hr hlk dX6_fault_113 rfl ⟨_, rfl, (by omega), h⟩
    · have h := h.2 c3
      refine g_aload_n X 0 dX6_fault_105 rfl ?_
      refine g_getI X (z := 1) dX6_fault_106 lf_X6_15 rfl rfl rfl ?_
      refine g_goto X (tgt := 113) dX6_fault_109 (by decide) ?_
      exact g_iret X hr hlk dX6_fault_113 rfl ⟨_, rfl, q1, h⟩
  · have h := h.2 c2
    refine g_iload X 4 dX6_fault_16 rfl ?_
    refine g_bipush X dX6_fault_18 (by decide +kernel) ?_
    refine g_icmp_ge X (tgt := 101) dX6_fault_20 (by decide) h32v4 (by omega) (fun c4 => ?_) (fun c4 => ?_)
    · have h := h.1 c4
      refine g_iload_n X 3 dX6_fault_101 rfl ?_
      refine g_if_ne X (tgt := 112) dX6_fault_102 (by decide) h32v3 (fun c5 => ?_) (fun c5 => ?_)
      · have h := h.1 c5
        refine g_iconst X dX6_fault_112 ?_
        exact g_iret X hr hlk dX6_fault_113 rfl ⟨_, rfl, (by omega), h⟩
      · have h := h.2 c5
        refine g_aload_n X 0 dX6_fault_105 rfl ?_
        refine g_getI X (z := 1) dX6_fault_106 lf_X6_15 rfl rfl rfl ?_
        refine g_goto X (tgt := 113) dX6_fault_109 (by decide) ?_
        exact g_iret X hr hlk dX6_fault_113 rfl ⟨_, rfl, q1, h⟩
    · have h := h.2 c4
      refine g_aload_n X 0 dX6_fault_23 rfl ?_
      refine g_getF X (f := 10) dX6_fault_24 lf_X6_11 rfl rfl rfl ?_
      refine g_iload X 4 dX6_fault_27 rfl ?_
      obtain ⟨q6, h⟩ := h
      refine g_iald X dX6_fault_29 rfl q6.1 q6.2 ?_
      refine g_cSZ X (K := K_X6_isFigure) [.int (iI (gI σ 10 v4))] [] dX6_fault_30 ls_X6_19 rm_X6_fault_X6_isFigure ⟨by decide, by decide⟩ adA_id rfl (Nat.le_of_ble_eq_true rfl) rfl h (fun s7 h => ?_) (fun s7 h => ?_)
      · skip
        refine g_if_eq X (tgt := 71) dX6_fault_33 (by decide) (by omega) (fun hc => absurd hc (by decide)) (fun _ => ?_)
        refine g_iload_n X 3 dX6_fault_36 rfl ?_
        refine g_iconst X dX6_fault_37 ?_
        refine g_icmp_eq X (tgt := 50) dX6_fault_38 (by decide) h32v3 (by omega) (fun c8 => ?_) (fun c8 => ?_)
        · have h := h.1 c8
          refine g_iload X 4 dX6_fault_50 rfl ?_
          exact g_iret X hr hlk dX6_fault_52 rfl ⟨_, rfl, h32v4, h⟩
        · have h := h.2 c8
          refine g_iload_n X 3 dX6_fault_41 rfl ?_
          refine g_if_ne X (tgt := 53) dX6_fault_42 (by decide) h32v3 (fun c9 => ?_) (fun c9 => ?_)
          · have h := h.1 c9
            refine g_iload_n X 3 dX6_fault_53 rfl ?_
            refine g_if_ne X (tgt := 63) dX6_fault_54 (by decide) h32v3 (fun c10 => ?_) (fun c10 => ?_)
            · have h := h.1 c10
              refine g_iload_n X 2 dX6_fault_63 rfl ?_
              refine g_istore_n X (lv' := [(2, .int (iI v2)), (0, .ref 9), (1, .int (iI v1)), (3, .int (iI v3)), (4, .int (iI v4))]) dX6_fault_64 (by decide) rfl ?_
              refine g_iinc X (x := v3) (lv' := [(3, .int (iI (v3 + 1))), (2, .int (iI v2)), (0, .ref 9), (1, .int (iI v1)), (4, .int (iI v4))]) 3 dX6_fault_65 rfl (by decide) rfl ?_
              refine g_goto X (tgt := 95) dX6_fault_68 (by decide) ?_
              refine g_iinc X (x := v4) (lv' := [(4, .int (iI (v4 + 1))), (3, .int (iI (v3 + 1))), (2, .int (iI v2)), (0, .ref 9), (1, .int (iI v1))]) 4 dX6_fault_95 rfl (by decide) rfl ?_
              refine g_goto X (tgt := 7) dX6_fault_98 (by decide) ?_
              exact g_sub (lv' := [(0, .ref 9), (1, .int (iI v1)), (2, .int (iI v2)), (3, .int (iI (v3 + 1))), (4, .int (iI (v4 + 1)))]) [3, 4, 2, 1, 0] rfl (h p l e s m args below meth c D cA ad X0 hr hlk)
            · have h := h.2 c10
              refine g_iload_n X 2 dX6_fault_57 rfl ?_
              refine g_iconst X dX6_fault_58 ?_
              refine g_iadd X dX6_fault_59 ?_
              refine g_goto X (tgt := 64) dX6_fault_60 (by decide) ?_
              refine g_istore_n X (lv' := [(2, .int (iI (v2 + 1))), (0, .ref 9), (1, .int (iI v1)), (3, .int (iI v3)), (4, .int (iI v4))]) dX6_fault_64 (by decide) rfl ?_
              refine g_iinc X (x := v3) (lv' := [(3, .int (iI (v3 + 1))), (2, .int (iI (v2 + 1))), (0, .ref 9), (1, .int (iI v1)), (4, .int (iI v4))]) 3 dX6_fault_65 rfl (by decide) rfl ?_
              refine g_goto X (tgt := 95) dX6_fault_68 (by decide) ?_
              refine g_iinc X (x := v4) (lv' := [(4, .int (iI (v4 + 1))), (3, .int (iI (v3 + 1))), (2, .int (iI (v2 + 1))), (0, .ref 9), (1, .int (iI v1))]) 4 dX6_fault_95 rfl (by decide) rfl ?_
              refine g_goto X (tgt := 7) dX6_fault_98 (by decide) ?_
              exact g_sub (lv' := [(0, .ref 9), (1, .int (iI v1)), (2, .int (iI (v2 + 1))), (3, .int (iI (v3 + 1))), (4, .int (iI (v4 + 1)))]) [3, 4, 2, 1, 0] rfl (h p l e s m args below meth c D cA ad X0 hr hlk)
          · have h := h.2 c9
            refine g_iload_n X 2 dX6_fault_45 rfl ?_
            refine g_iload_n X 1 dX6_fault_46 rfl ?_
            refine g_icmp_ne X (tgt := 53) dX6_fault_47 (by decide) h32v2 h32v1 (fun c11 => ?_) (fun c11 => ?_)
            · have h := h.1 c11
              refine g_iload_n X 3 dX6_fault_53 rfl ?_
              refine g_if_ne X (tgt := 63) dX6_fault_54 (by decide) h32v3 (fun c12 => ?_) (fun c12 => ?_)
              · have h := h.1 c12
                refine g_iload_n X 2 dX6_fault_63 rfl ?_
                refine g_istore_n X (lv' := [(2, .int (iI v2)), (0, .ref 9), (1, .int (iI v1)), (3, .int (iI v3)), (4, .int (iI v4))]) dX6_fault_64 (by decide) rfl ?_
                refine g_iinc X (x := v3) (lv' := [(3, .int (iI (v3 + 1))), (2, .int (iI v2)), (0, .ref 9), (1, .int (iI v1)), (4, .int (iI v4))]) 3 dX6_fault_65 rfl (by decide) rfl ?_
                refine g_goto X (tgt := 95) dX6_fault_68 (by decide) ?_
                refine g_iinc X (x := v4) (lv' := [(4, .int (iI (v4 + 1))), (3, .int (iI (v3 + 1))), (2, .int (iI v2)), (0, .ref 9), (1, .int (iI v1))]) 4 dX6_fault_95 rfl (by decide) rfl ?_
                refine g_goto X (tgt := 7) dX6_fault_98 (by decide) ?_
                exact g_sub (lv' := [(0, .ref 9), (1, .int (iI v1)), (2, .int (iI v2)), (3, .int (iI (v3 + 1))), (4, .int (iI (v4 + 1)))]) [3, 4, 2, 1, 0] rfl (h p l e s m args below meth c D cA ad X0 hr hlk)
              · have h := h.2 c12
                refine g_iload_n X 2 dX6_fault_57 rfl ?_
                refine g_iconst X dX6_fault_58 ?_
                refine g_iadd X dX6_fault_59 ?_
                refine g_goto X (tgt := 64) dX6_fault_60 (by decide) ?_
                refine g_istore_n X (lv' := [(2, .int (iI (v2 + 1))), (0, .ref 9), (1, .int (iI v1)), (3, .int (iI v3)), (4, .int (iI v4))]) dX6_fault_64 (by decide) rfl ?_
                refine g_iinc X (x := v3) (lv' := [(3, .int (iI (v3 + 1))), (2, .int (iI (v2 + 1))), (0, .ref 9), (1, .int (iI v1)), (4, .int (iI v4))]) 3 dX6_fault_65 rfl (by decide) rfl ?_
                refine g_goto X (tgt := 95) dX6_fault_68 (by decide) ?_
                refine g_iinc X (x := v4) (lv' := [(4, .int (iI (v4 + 1))), (3, .int (iI (v3 + 1))), (2, .int (iI (v2 + 1))), (0, .ref 9), (1, .int (iI v1))]) 4 dX6_fault_95 rfl (by decide) rfl ?_
                refine g_goto X (tgt := 7) dX6_fault_98 (by decide) ?_
                exact g_sub (lv' := [(0, .ref 9), (1, .int (iI v1)), (2, .int (iI (v2 + 1))), (3, .int (iI (v3 + 1))), (4, .int (iI (v4 + 1)))]) [3, 4, 2, 1, 0] rfl (h p l e s m args below meth c D cA ad X0 hr hlk)
            · have h := h.2 c11
              refine g_iload X 4 dX6_fault_50 rfl ?_
              exact g_iret X hr hlk dX6_fault_52 rfl ⟨_, rfl, h32v4, h⟩
      · skip
        refine g_if_eq X (tgt := 71) dX6_fault_33 (by decide) (by omega) (fun _ => ?_) (fun hc => absurd hc (by decide))
        refine g_aload_n X 0 dX6_fault_71 rfl ?_
        refine g_getF X (f := 10) dX6_fault_72 lf_X6_11 rfl rfl rfl ?_
        refine g_iload X 4 dX6_fault_75 rfl ?_
        refine g_iald X dX6_fault_77 rfl q6.1 q6.2 ?_
        refine g_bipush X dX6_fault_78 (by decide +kernel) ?_
        obtain ⟨q13, h⟩ := h
        refine g_icmp_ne X (tgt := 92) dX6_fault_80 (by decide) q13 (by omega) (fun c14 => ?_) (fun c14 => ?_)
        · have h := h.1 c14
          refine g_iload X 4 dX6_fault_92 rfl ?_
          exact g_iret X hr hlk dX6_fault_94 rfl ⟨_, rfl, h32v4, h⟩
        · have h := h.2 c14
          refine g_iload_n X 3 dX6_fault_83 rfl ?_
          refine g_if_le X (tgt := 92) dX6_fault_84 (by decide) h32v3 (fun c15 => ?_) (fun c15 => ?_)
          · have h := h.1 c15
            refine g_iload X 4 dX6_fault_92 rfl ?_
            exact g_iret X hr hlk dX6_fault_94 rfl ⟨_, rfl, h32v4, h⟩
          · have h := h.2 c15
            refine g_iconst X dX6_fault_87 ?_
            refine g_istore_n X (lv' := [(3, .int (iI 0)), (0, .ref 9), (1, .int (iI v1)), (2, .int (iI v2)), (4, .int (iI v4))]) dX6_fault_88 (by decide) rfl ?_
            refine g_goto X (tgt := 95) dX6_fault_89 (by decide) ?_
            refine g_iinc X (x := v4) (lv' := [(4, .int (iI (v4 + 1))), (3, .int (iI 0)), (0, .ref 9), (1, .int (iI v1)), (2, .int (iI v2))]) 4 dX6_fault_95 rfl (by decide) rfl ?_
            refine g_goto X (tgt := 7) dX6_fault_98 (by decide) ?_
            exact g_sub (lv' := [(0, .ref 9), (1, .int (iI v1)), (2, .int (iI v2)), (3, .int (iI 0)), (4, .int (iI (v4 + 1)))]) [2, 3, 4, 1, 0] rfl (h p l e s m args below meth c D cA ad X0 hr hlk)
theorem bX6_numbersInto_0 {a1 : Nat} {σ : ASt} {Q : Int → ASt → Prop} (ha1 : shp a1 = (1, 0, 43)) (h : Wx K_X6_numbersInto (QI Q) 2 [(0, .ref 9), (1, .ref a1), (2, .int (iI 0))] [] σ) : Wx K_X6_numbersInto (QI Q) 0 [(0, .ref 9), (1, .ref a1)] [] σ := by
  intro p l e s m args below meth c D cA ad X0 hr hlk
  have X : Cx p s m args c (adA ad) D cA ad RX6 cX6_numbersInto 5 := X0
  refine g_iconst X dX6_numbersInto_0 ?_
  refine g_istore_n X (lv' := [(2, .int (iI 0)), (0, .ref 9), (1, .ref a1)]) dX6_numbersInto_1 (by decide) rfl ?_
  exact g_sub (lv' := [(0, .ref 9), (1, .ref a1), (2, .int (iI 0))]) [1, 2, 0] rfl (h p l e s m args below meth c D cA ad X0 hr hlk)
theorem eX6_numbersInto {a1 : Nat} {σ : ASt} {Q : Int → ASt → Prop} (ha1 : shp a1 = (1, 0, 43)) (h : Wx K_X6_numbersInto (QI Q) 2 [(0, .ref 9), (1, .ref a1), (2, .int (iI 0))] [] σ) : EvI K_X6_numbersInto [.ref 9, .ref a1] σ Q := Ev.of rfl (Nat.le_of_ble_eq_true rfl) rfl (bX6_numbersInto_0 ha1 h)
theorem bX6_numbersInto_2 {a1 : Nat} {v2 : Int} {σ : ASt} {Q : Int → ASt → Prop} (ha1 : shp a1 = (1, 0, 43)) (h32v2 : i32 v2) (h : ((43 ≤ v2 → i32 ((gI σ 9 1)) ∧ Wx K_X6_numbersInto (QI Q) 35 [(0, .ref 9), (1, .ref a1), (2, .int (iI 0)), (3, .int (iI 1)), (4, .int (iI ((if (80 : Int) < (gI σ 9 1) then 80 else (gI σ 9 1)) - 1)))] [] σ) ∧ (v2 < 43 → ((0 : Int) ≤ v2 ∧ v2 < 43) ∧ Wx K_X6_numbersInto (QI Q) 2 [(0, .ref 9), (1, .ref a1), (2, .int (iI (v2 + 1)))] [] (sI σ a1 v2 0)))) : Wx K_X6_numbersInto (QI Q) 2 [(0, .ref 9), (1, .ref a1), (2, .int (iI v2))] [] σ := by
  intro p l e s m args below meth c D cA ad X0 hr hlk
  have X : Cx p s m args c (adA ad) D cA ad RX6 cX6_numbersInto 5 := X0
  refine g_iload_n X 2 dX6_numbersInto_2 rfl ?_
  refine g_aload_n X 1 dX6_numbersInto_3 rfl ?_
  refine g_alen1 X (z := 43) dX6_numbersInto_4 ha1 rfl ?_
  refine g_icmp_ge X (tgt := 18) dX6_numbersInto_5 (by decide) h32v2 (by omega) (fun c1 => ?_) (fun c1 => ?_)
  · have h := h.1 c1
    refine g_iconst X dX6_numbersInto_18 ?_
    refine g_istore_n X (lv' := [(2, .int (iI 0)), (0, .ref 9), (1, .ref a1)]) dX6_numbersInto_19 (by decide) rfl ?_
    refine g_iconst X dX6_numbersInto_20 ?_
    refine g_istore_n X (lv' := [(3, .int (iI 1)), (2, .int (iI 0)), (0, .ref 9), (1, .ref a1)]) dX6_numbersInto_21 (by decide) rfl ?_
    refine g_aload_n X 2 dX6_numbersInto_22 rfl ?_
    refine g_getI X (z := 1) dX6_numbersInto_23 lf_X6_15 rfl rfl rfl ?_
    refine g_bipush X dX6_numbersInto_26 (by decide +kernel) ?_
    obtain ⟨q2, h⟩ := h
    refine g_mmin X dX6_numbersInto_28 lm_X6_23 (by decide) (Nat.le_of_ble_eq_true rfl) ⟨by decide, by decide⟩ q2 (by omega) ?_
    refine g_iconst X dX6_numbersInto_31 ?_
    refine g_isub X dX6_numbersInto_32 ?_
    refine g_istore X (lv' := [(4, .int (iI ((if (80 : Int) < (gI σ 9 1) then 80 else (gI σ 9 1)) - 1))), (3, .int (iI 1)), (2, .int (iI 0)), (0, .ref 9), (1, .ref a1)]) dX6_numbersInto_33 (by decide) rfl ?_
    exact g_sub (lv' := [(0, .ref 9), (1, .ref a1), (2, .int (iI 0)), (3, .int (iI 1)), (4, .int (iI ((if (80 : Int) < (gI σ 9 1) then 80 else (gI σ 9 1)) - 1)))]) [3, 4, 2, 1, 0] rfl (h p l e s m args below meth c D cA ad X0 hr hlk)
  · have h := h.2 c1
    refine g_aload_n X 1 dX6_numbersInto_8 rfl ?_
    refine g_iload_n X 2 dX6_numbersInto_9 rfl ?_
    refine g_iconst X dX6_numbersInto_10 ?_
    obtain ⟨q3, h⟩ := h
    refine g_iast X dX6_numbersInto_11 ha1 q3.1 q3.2 ?_
    refine g_iinc X (x := v2) (lv' := [(2, .int (iI (v2 + 1))), (0, .ref 9), (1, .ref a1)]) 2 dX6_numbersInto_12 rfl (by decide) rfl ?_
    refine g_goto X (tgt := 2) dX6_numbersInto_15 (by decide) ?_
    exact g_sub (lv' := [(0, .ref 9), (1, .ref a1), (2, .int (iI (v2 + 1)))]) [1, 2, 0] rfl (h p l e s m args below meth c D cA ad X0 hr hlk)
theorem bX6_numbersInto_35 {a1 : Nat} {v2 : Int} {v3 : Int} {v4 : Int} {σ : ASt} {Q : Int → ASt → Prop} (ha1 : shp a1 = (1, 0, 43)) (h32v2 : i32 v2) (h32v4 : i32 v4) (h : ((v4 < 0 → i32 ((v2 + 1)) ∧ Q (v2 + 1) σ) ∧ (0 ≤ v4 → ((0 : Int) ≤ v4 ∧ v4 < 80) ∧ i32 ((gI σ 10 v4)) ∧ (((gI σ 10 v4) ≠ 46 → ((43 ≤ v2 → Wx K_X6_numbersInto (QI Q) 35 [(0, .ref 9), (1, .ref a1), (2, .int (iI v2)), (3, .int (iI v3)), (4, .int (iI (v4 + (-1))))] [] σ) ∧ (v2 < 43 → ((0 : Int) ≤ v2 ∧ v2 < 43) ∧ Wx K_X6_numbersInto (QI Q) 35 [(0, .ref 9), (1, .ref a1), (2, .int (iI v2)), (3, .int (iI 10)), (4, .int (iI (v4 + (-1))))] [] (sI σ a1 v2 ((gI σ a1 v2) + (((gI σ 10 v4) - 48) * v3)))))) ∧ ((gI σ 10 v4) = 46 → Wx K_X6_numbersInto (QI Q) 35 [(0, .ref 9), (1, .ref a1), (2, .int (iI (v2 + 1))), (3, .int (iI 1)), (4, .int (iI (v4 + (-1))))] [] σ))))) : Wx K_X6_numbersInto (QI Q) 35 [(0, .ref 9), (1, .ref a1), (2, .int (iI v2)), (3, .int (iI v3)), (4, .int (iI v4))] [] σ := by
  intro p l e s m args below meth c D cA ad X0 hr hlk
  have X : Cx p s m args c (adA ad) D cA ad RX6 cX6_numbersInto 5 := X0
  refine g_iload X 4 dX6_numbersInto_35 rfl ?_
  refine g_if_lt X (tgt := 93) dX6_numbersInto_37 (by decide) h32v4 (fun c1 => ?_) (fun c1 => ?_)
  · have h := h.1 c1
    refine g_iload_n X 2 dX6_numbersInto_93 rfl ?_
    refine g_iconst X dX6_numbersInto_94 ?_
    refine g_iadd X dX6_numbersInto_95 ?_
    obtain ⟨q2, h⟩ := h
    exact g_iret X hr hlk dX6_numbersInto_96 rfl ⟨_, rfl, q2, h⟩
  · have h := h.2 c1
    refine g_aload_n X 0 dX6_numbersInto_40 rfl ?_
    refine g_getF X (f := 10) dX6_numbersInto_41 lf_X6_11 rfl rfl rfl ?_
    refine g_iload X 4 dX6_numbersInto_44 rfl ?_
    obtain ⟨q3, h⟩ := h
    refine g_iald X dX6_numbersInto_46 rfl q3.1 q3.2 ?_
    refine g_bipush X dX6_numbersInto_47 (by decide +kernel) ?_
    obtain ⟨q4, h⟩ := h
    refine g_icmp_ne X (tgt := 60) dX6_numbersInto_49 (by decide) q4 (by omega) (fun c5 => ?_) (fun c5 => ?_)
    · have h := h.1 c5
      refine g_iload_n X 2 dX6_numbersInto_60 rfl ?_
      refine g_aload_n X 1 dX6_numbersInto_61 rfl ?_
      refine g_alen1 X (z := 43) dX6_numbersInto_62 ha1 rfl ?_
      refine g_icmp_ge X (tgt := 87) dX6_numbersInto_63 (by decide) h32v2 (by omega) (fun c6 => ?_) (fun c6 => ?_)
      · have h := h.1 c6
        refine g_iinc X (x := v4) (lv' := [(4, .int (iI (v4 + (-1)))), (0, .ref 9), (1, .ref a1), (2, .int (iI v2)), (3, .int (iI v3))]) 4 dX6_numbersInto_87 rfl (by decide) rfl ?_
        refine g_goto X (tgt := 35) dX6_numbersInto_90 (by decide) ?_
        exact g_sub (lv' := [(0, .ref 9), (1, .ref a1), (2, .int (iI v2)), (3, .int (iI v3)), (4, .int (iI (v4 + (-1))))]) [1, 2, 3, 4, 0] rfl (h p l e s m args below meth c D cA ad X0 hr hlk)
      · have h := h.2 c6
        refine g_aload_n X 1 dX6_numbersInto_66 rfl ?_
        refine g_iload_n X 2 dX6_numbersInto_67 rfl ?_
        refine g_dup2 X dX6_numbersInto_68 rfl rfl ?_
        obtain ⟨q7, h⟩ := h
        refine g_iald X dX6_numbersInto_69 ha1 q7.1 q7.2 ?_
        refine g_aload_n X 0 dX6_numbersInto_70 rfl ?_
        refine g_getF X (f := 10) dX6_numbersInto_71 lf_X6_11 rfl rfl rfl ?_
        refine g_iload X 4 dX6_numbersInto_74 rfl ?_
        refine g_iald X dX6_numbersInto_76 rfl q3.1 q3.2 ?_
        refine g_bipush X dX6_numbersInto_77 (by decide +kernel) ?_
        refine g_isub X dX6_numbersInto_79 ?_
        refine g_iload_n X 3 dX6_numbersInto_80 rfl ?_
        refine g_imul X dX6_numbersInto_81 ?_
        refine g_iadd X dX6_numbersInto_82 ?_
        refine g_iast X dX6_numbersInto_83 ha1 q7.1 q7.2 ?_
        refine g_bipush X dX6_numbersInto_84 (by decide +kernel) ?_
        refine g_istore_n X (lv' := [(3, .int (iI 10)), (0, .ref 9), (1, .ref a1), (2, .int (iI v2)), (4, .int (iI v4))]) dX6_numbersInto_86 (by decide) rfl ?_
        refine g_iinc X (x := v4) (lv' := [(4, .int (iI (v4 + (-1)))), (3, .int (iI 10)), (0, .ref 9), (1, .ref a1), (2, .int (iI v2))]) 4 dX6_numbersInto_87 rfl (by decide) rfl ?_
        refine g_goto X (tgt := 35) dX6_numbersInto_90 (by decide) ?_
        exact g_sub (lv' := [(0, .ref 9), (1, .ref a1), (2, .int (iI v2)), (3, .int (iI 10)), (4, .int (iI (v4 + (-1))))]) [2, 3, 4, 1, 0] rfl (h p l e s m args below meth c D cA ad X0 hr hlk)
    · have h := h.2 c5
      refine g_iinc X (x := v2) (lv' := [(2, .int (iI (v2 + 1))), (0, .ref 9), (1, .ref a1), (3, .int (iI v3)), (4, .int (iI v4))]) 2 dX6_numbersInto_52 rfl (by decide) rfl ?_
      refine g_iconst X dX6_numbersInto_55 ?_
      refine g_istore_n X (lv' := [(3, .int (iI 1)), (2, .int (iI (v2 + 1))), (0, .ref 9), (1, .ref a1), (4, .int (iI v4))]) dX6_numbersInto_56 (by decide) rfl ?_
      refine g_goto X (tgt := 87) dX6_numbersInto_57 (by decide) ?_
      refine g_iinc X (x := v4) (lv' := [(4, .int (iI (v4 + (-1)))), (3, .int (iI 1)), (2, .int (iI (v2 + 1))), (0, .ref 9), (1, .ref a1)]) 4 dX6_numbersInto_87 rfl (by decide) rfl ?_
      refine g_goto X (tgt := 35) dX6_numbersInto_90 (by decide) ?_
      exact g_sub (lv' := [(0, .ref 9), (1, .ref a1), (2, .int (iI (v2 + 1))), (3, .int (iI 1)), (4, .int (iI (v4 + (-1))))]) [3, 4, 2, 1, 0] rfl (h p l e s m args below meth c D cA ad X0 hr hlk)
