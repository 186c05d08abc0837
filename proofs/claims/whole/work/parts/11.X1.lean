/-! by program: the block rules of class 1 -/
theorem bX1_move_0 {v1 : Int} {v2 : Int} {σ : ASt} {Q : ASt → Prop}  (h : ((0 : Int) ≤ v1 ∧ v1 < 12) ∧ ((0 : Int) ≤ v2 ∧ v2 < 12) ∧ (0 : Int) ≤ (v1 * 43) ∧ (0 : Int) ≤ (v2 * 43) ∧ ((v1 * 43) : Int) + 43 ≤ 516 ∧ ((v2 * 43) : Int) + 43 ≤ 516 ∧ Q (cI (sI σ 12 v2 (gI σ 12 v1)) 13 13 (v1 * 43) (v2 * 43) 43)) : Wx K_X1_move (QV Q) 0 [(0, .ref 11), (1, .int (iI v1)), (2, .int (iI v2))] [] σ := by
  intro p l e s m args below meth c D cA ad X0 hr hlk
  have X : Cx p s m args c (adA ad) D cA ad RX1 cX1_move 3 := X0
  refine g_aload_n X 0 dX1_move_0 rfl ?_
  refine g_getF X (f := 12) dX1_move_1 lf_X1_11 rfl rfl rfl ?_
  refine g_iload_n X 2 dX1_move_4 rfl ?_
  refine g_aload_n X 0 dX1_move_5 rfl ?_
  refine g_getF X (f := 12) dX1_move_6 lf_X1_11 rfl rfl rfl ?_
  refine g_iload_n X 1 dX1_move_9 rfl ?_
  obtain ⟨q1, h⟩ := h
  refine g_iald X dX1_move_10 rfl q1.1 q1.2 ?_
  obtain ⟨q2, h⟩ := h
  refine g_iast X dX1_move_11 rfl q2.1 q2.2 ?_
  refine g_aload_n X 0 dX1_move_12 rfl ?_
  refine g_getF X (f := 13) dX1_move_13 lf_X1_15 rfl rfl rfl ?_
  refine g_iload_n X 1 dX1_move_16 rfl ?_
  refine g_bipush X dX1_move_17 (by decide +kernel) ?_
  refine g_imul X dX1_move_19 ?_
  refine g_aload_n X 0 dX1_move_20 rfl ?_
  refine g_getF X (f := 13) dX1_move_21 lf_X1_15 rfl rfl rfl ?_
  refine g_iload_n X 2 dX1_move_24 rfl ?_
  refine g_bipush X dX1_move_25 (by decide +kernel) ?_
  refine g_imul X dX1_move_27 ?_
  refine g_bipush X dX1_move_28 (by decide +kernel) ?_
  obtain ⟨q3, h⟩ := h
  obtain ⟨q4, h⟩ := h
  obtain ⟨q5, h⟩ := h
  obtain ⟨q6, h⟩ := h
  refine g_copyI X dX1_move_30 la_X1_31 (by decide) (Nat.le_of_ble_eq_true rfl) rfl rfl q3 q4 (by decide) q5 q6 ?_
  exact g_vret X hr hlk dX1_move_33 ⟨rfl, h⟩
theorem eX1_move {v1 : Int} {v2 : Int} {σ : ASt} {Q : ASt → Prop}  (h : ((0 : Int) ≤ v1 ∧ v1 < 12) ∧ ((0 : Int) ≤ v2 ∧ v2 < 12) ∧ (0 : Int) ≤ (v1 * 43) ∧ (0 : Int) ≤ (v2 * 43) ∧ ((v1 * 43) : Int) + 43 ≤ 516 ∧ ((v2 * 43) : Int) + 43 ≤ 516 ∧ Q (cI (sI σ 12 v2 (gI σ 12 v1)) 13 13 (v1 * 43) (v2 * 43) 43)) : EvV K_X1_move [.ref 11, .int (iI v1), .int (iI v2)] σ Q := Ev.of rfl (Nat.le_of_ble_eq_true rfl) rfl (bX1_move_0  h)
theorem bX1_dropEldest_0 {σ : ASt} {Q : ASt → Prop}  (h : Wx K_X1_dropEldest (QV Q) 2 [(0, .ref 11), (1, .int (iI 1))] [] σ) : Wx K_X1_dropEldest (QV Q) 0 [(0, .ref 11)] [] σ := by
  intro p l e s m args below meth c D cA ad X0 hr hlk
  have X : Cx p s m args c (adA ad) D cA ad RX1 cX1_dropEldest 2 := X0
  refine g_iconst X dX1_dropEldest_0 ?_
  refine g_istore_n X (lv' := [(1, .int (iI 1)), (0, .ref 11)]) dX1_dropEldest_1 (by decide) rfl ?_
  exact g_sub (lv' := [(0, .ref 11), (1, .int (iI 1))]) [1, 0] rfl (h p l e s m args below meth c D cA ad X0 hr hlk)
theorem eX1_dropEldest {σ : ASt} {Q : ASt → Prop}  (h : Wx K_X1_dropEldest (QV Q) 2 [(0, .ref 11), (1, .int (iI 1))] [] σ) : EvV K_X1_dropEldest [.ref 11] σ Q := Ev.of rfl (Nat.le_of_ble_eq_true rfl) rfl (bX1_dropEldest_0  h)
theorem bX1_dropEldest_2 {v1 : Int} {σ : ASt} {Q : ASt → Prop} (h32v1 : i32 v1) (h : ((12 ≤ v1 → Q (sI σ 11 2 11)) ∧ (v1 < 12 → EvV K_X1_move [.ref 11, .int (iI v1), .int (iI (v1 - 1))] σ (fun s2 => Wx K_X1_dropEldest (QV Q) 2 [(0, .ref 11), (1, .int (iI (v1 + 1)))] [] s2)))) : Wx K_X1_dropEldest (QV Q) 2 [(0, .ref 11), (1, .int (iI v1))] [] σ := by
  intro p l e s m args below meth c D cA ad X0 hr hlk
  have X : Cx p s m args c (adA ad) D cA ad RX1 cX1_dropEldest 2 := X0
  refine g_iload_n X 1 dX1_dropEldest_2 rfl ?_
  refine g_bipush X dX1_dropEldest_3 (by decide +kernel) ?_
  refine g_icmp_ge X (tgt := 22) dX1_dropEldest_5 (by decide) h32v1 (by omega) (fun c1 => ?_) (fun c1 => ?_)
  · have h := h.1 c1
    refine g_aload_n X 0 dX1_dropEldest_22 rfl ?_
    refine g_bipush X dX1_dropEldest_23 (by decide +kernel) ?_
    refine g_putI X (j := 2) (z := 2) dX1_dropEldest_25 lp_X1_18 rfl rfl rfl ?_
    exact g_vret X hr hlk dX1_dropEldest_28 ⟨rfl, h⟩
  · have h := h.2 c1
    refine g_aload_n X 0 dX1_dropEldest_8 rfl ?_
    refine g_iload_n X 1 dX1_dropEldest_9 rfl ?_
    refine g_iload_n X 1 dX1_dropEldest_10 rfl ?_
    refine g_iconst X dX1_dropEldest_11 ?_
    refine g_isub X dX1_dropEldest_12 ?_
    refine g_cVV X (K := K_X1_move) [.int (iI v1), .int (iI (v1 - 1))] [] dX1_dropEldest_13 lv_X1_37 rm_X1_dropEldest_X1_move ⟨by decide, by decide⟩ adA_id rfl rfl rfl (Nat.le_of_ble_eq_true rfl) rfl h (fun s2 h => ?_)
    refine g_iinc X (x := v1) (lv' := [(1, .int (iI (v1 + 1))), (0, .ref 11)]) 1 dX1_dropEldest_16 rfl (by decide) rfl ?_
    refine g_goto X (tgt := 2) dX1_dropEldest_19 (by decide) ?_
    exact g_sub (lv' := [(0, .ref 11), (1, .int (iI (v1 + 1)))]) [1, 0] rfl (h p l e s m args below meth c D cA ad X0 hr hlk)
theorem bX1_forget_0 {v1 : Int} {σ : ASt} {Q : ASt → Prop}  (h : Wx K_X1_forget (QV Q) 4 [(0, .ref 11), (1, .int (iI v1)), (2, .int (iI 0)), (3, .int (iI 0))] [] σ) : Wx K_X1_forget (QV Q) 0 [(0, .ref 11), (1, .int (iI v1))] [] σ := by
  intro p l e s m args below meth c D cA ad X0 hr hlk
  have X : Cx p s m args c (adA ad) D cA ad RX1 cX1_forget 4 := X0
  refine g_iconst X dX1_forget_0 ?_
  refine g_istore_n X (lv' := [(2, .int (iI 0)), (0, .ref 11), (1, .int (iI v1))]) dX1_forget_1 (by decide) rfl ?_
  refine g_iconst X dX1_forget_2 ?_
  refine g_istore_n X (lv' := [(3, .int (iI 0)), (2, .int (iI 0)), (0, .ref 11), (1, .int (iI v1))]) dX1_forget_3 (by decide) rfl ?_
  exact g_sub (lv' := [(0, .ref 11), (1, .int (iI v1)), (2, .int (iI 0)), (3, .int (iI 0))]) [2, 3, 1, 0] rfl (h p l e s m args below meth c D cA ad X0 hr hlk)
theorem eX1_forget {v1 : Int} {σ : ASt} {Q : ASt → Prop}  (h : Wx K_X1_forget (QV Q) 4 [(0, .ref 11), (1, .int (iI v1)), (2, .int (iI 0)), (3, .int (iI 0))] [] σ) : EvV K_X1_forget [.ref 11, .int (iI v1)] σ Q := Ev.of rfl (Nat.le_of_ble_eq_true rfl) rfl (bX1_forget_0  h)
theorem bX1_forget_4 {v1 : Int} {v2 : Int} {v3 : Int} {σ : ASt} {Q : ASt → Prop} (h32v1 : i32 v1) (h32v3 : i32 v3) (h : i32 ((gI σ 11 2)) ∧ (((gI σ 11 2) ≤ v3 → Q (sI σ 11 2 v2)) ∧ (v3 < (gI σ 11 2) → ((12 ≤ v3 → Q (sI σ 11 2 v2)) ∧ (v3 < 12 → ((0 : Int) ≤ v3 ∧ v3 < 12) ∧ i32 ((gI σ 12 v3)) ∧ (((gI σ 12 v3) = v1 → Wx K_X1_forget (QV Q) 4 [(0, .ref 11), (1, .int (iI v1)), (2, .int (iI v2)), (3, .int (iI (v3 + 1)))] [] σ) ∧ ((gI σ 12 v3) ≠ v1 → EvV K_X1_move [.ref 11, .int (iI v3), .int (iI v2)] σ (fun s7 => Wx K_X1_forget (QV Q) 4 [(0, .ref 11), (1, .int (iI v1)), (2, .int (iI (v2 + 1))), (3, .int (iI (v3 + 1)))] [] s7)))))))) : Wx K_X1_forget (QV Q) 4 [(0, .ref 11), (1, .int (iI v1)), (2, .int (iI v2)), (3, .int (iI v3))] [] σ := by
  intro p l e s m args below meth c D cA ad X0 hr hlk
  have X : Cx p s m args c (adA ad) D cA ad RX1 cX1_forget 4 := X0
  refine g_iload_n X 3 dX1_forget_4 rfl ?_
  refine g_aload_n X 0 dX1_forget_5 rfl ?_
  refine g_getI X (z := 2) dX1_forget_6 lf_X1_18 rfl rfl rfl ?_
  obtain ⟨q1, h⟩ := h
  refine g_icmp_ge X (tgt := 43) dX1_forget_9 (by decide) h32v3 q1 (fun c2 => ?_) (fun c2 => ?_)
  · have h := h.1 c2
    refine g_aload_n X 0 dX1_forget_43 rfl ?_
    refine g_iload_n X 2 dX1_forget_44 rfl ?_
    refine g_putI X (j := 2) (z := 2) dX1_forget_45 lp_X1_18 rfl rfl rfl ?_
    exact g_vret X hr hlk dX1_forget_48 ⟨rfl, h⟩
  · have h := h.2 c2
    refine g_iload_n X 3 dX1_forget_12 rfl ?_
    refine g_bipush X dX1_forget_13 (by decide +kernel) ?_
    refine g_icmp_ge X (tgt := 43) dX1_forget_15 (by decide) h32v3 (by omega) (fun c3 => ?_) (fun c3 => ?_)
    · have h := h.1 c3
      refine g_aload_n X 0 dX1_forget_43 rfl ?_
      refine g_iload_n X 2 dX1_forget_44 rfl ?_
      refine g_putI X (j := 2) (z := 2) dX1_forget_45 lp_X1_18 rfl rfl rfl ?_
      exact g_vret X hr hlk dX1_forget_48 ⟨rfl, h⟩
    · have h := h.2 c3
      refine g_aload_n X 0 dX1_forget_18 rfl ?_
      refine g_getF X (f := 12) dX1_forget_19 lf_X1_11 rfl rfl rfl ?_
      refine g_iload_n X 3 dX1_forget_22 rfl ?_
      obtain ⟨q4, h⟩ := h
      refine g_iald X dX1_forget_23 rfl q4.1 q4.2 ?_
      refine g_iload_n X 1 dX1_forget_24 rfl ?_
      obtain ⟨q5, h⟩ := h
      refine g_icmp_eq X (tgt := 37) dX1_forget_25 (by decide) q5 h32v1 (fun c6 => ?_) (fun c6 => ?_)
      · have h := h.1 c6
        refine g_iinc X (x := v3) (lv' := [(3, .int (iI (v3 + 1))), (0, .ref 11), (1, .int (iI v1)), (2, .int (iI v2))]) 3 dX1_forget_37 rfl (by decide) rfl ?_
        refine g_goto X (tgt := 4) dX1_forget_40 (by decide) ?_
        exact g_sub (lv' := [(0, .ref 11), (1, .int (iI v1)), (2, .int (iI v2)), (3, .int (iI (v3 + 1)))]) [1, 2, 3, 0] rfl (h p l e s m args below meth c D cA ad X0 hr hlk)
      · have h := h.2 c6
        refine g_aload_n X 0 dX1_forget_28 rfl ?_
        refine g_iload_n X 3 dX1_forget_29 rfl ?_
        refine g_iload_n X 2 dX1_forget_30 rfl ?_
        refine g_cVV X (K := K_X1_move) [.int (iI v3), .int (iI v2)] [] dX1_forget_31 lv_X1_37 rm_X1_forget_X1_move ⟨by decide, by decide⟩ adA_id rfl rfl rfl (Nat.le_of_ble_eq_true rfl) rfl h (fun s7 h => ?_)
        refine g_iinc X (x := v2) (lv' := [(2, .int (iI (v2 + 1))), (0, .ref 11), (1, .int (iI v1)), (3, .int (iI v3))]) 2 dX1_forget_34 rfl (by decide) rfl ?_
        refine g_iinc X (x := v3) (lv' := [(3, .int (iI (v3 + 1))), (2, .int (iI (v2 + 1))), (0, .ref 11), (1, .int (iI v1))]) 3 dX1_forget_37 rfl (by decide) rfl ?_
        refine g_goto X (tgt := 4) dX1_forget_40 (by decide) ?_
        exact g_sub (lv' := [(0, .ref 11), (1, .int (iI v1)), (2, .int (iI (v2 + 1))), (3, .int (iI (v3 + 1)))]) [2, 3, 1, 0] rfl (h p l e s m args below meth c D cA ad X0 hr hlk)
theorem bX1_keep_0 {v1 : Int} {a2 : Nat} {σ : ASt} {Q : ASt → Prop} (ha2 : shp a2 = (1, 0, 43)) (h : i32 ((gI σ 11 2)) ∧ (((gI σ 11 2) < 12 → ((0 : Int) ≤ (gI σ 11 2) ∧ (gI σ 11 2) < 12) ∧ (0 : Int) ≤ ((gI (sI σ 12 (gI σ 11 2) v1) 11 2) * 43) ∧ (0 : Int) ≤ (if (43 : Int) < 43 then 43 else 43) ∧ (0 : Int) + (if (43 : Int) < 43 then 43 else 43) ≤ 43 ∧ (((gI (sI σ 12 (gI σ 11 2) v1) 11 2) * 43) : Int) + (if (43 : Int) < 43 then 43 else 43) ≤ 516 ∧ Q (sI (cI (sI σ 12 (gI σ 11 2) v1) a2 13 0 ((gI (sI σ 12 (gI σ 11 2) v1) 11 2) * 43) (if (43 : Int) < 43 then 43 else 43)) 11 2 ((gI (cI (sI σ 12 (gI σ 11 2) v1) a2 13 0 ((gI (sI σ 12 (gI σ 11 2) v1) 11 2) * 43) (if (43 : Int) < 43 then 43 else 43)) 11 2) + 1))) ∧ (12 ≤ (gI σ 11 2) → EvV K_X1_dropEldest [.ref 11] σ (fun s8 => ((0 : Int) ≤ (gI s8 11 2) ∧ (gI s8 11 2) < 12) ∧ (0 : Int) ≤ ((gI (sI s8 12 (gI s8 11 2) v1) 11 2) * 43) ∧ (0 : Int) ≤ (if (43 : Int) < 43 then 43 else 43) ∧ (0 : Int) + (if (43 : Int) < 43 then 43 else 43) ≤ 43 ∧ (((gI (sI s8 12 (gI s8 11 2) v1) 11 2) * 43) : Int) + (if (43 : Int) < 43 then 43 else 43) ≤ 516 ∧ Q (sI (cI (sI s8 12 (gI s8 11 2) v1) a2 13 0 ((gI (sI s8 12 (gI s8 11 2) v1) 11 2) * 43) (if (43 : Int) < 43 then 43 else 43)) 11 2 ((gI (cI (sI s8 12 (gI s8 11 2) v1) a2 13 0 ((gI (sI s8 12 (gI s8 11 2) v1) 11 2) * 43) (if (43 : Int) < 43 then 43 else 43)) 11 2) + 1)))))) : Wx K_X1_keep (QV Q) 0 [(0, .ref 11), (1, .int (iI v1)), (2, .ref a2)] [] σ := by
  intro p l e s m args below meth c D cA ad X0 hr hlk
  have X : Cx p s m args c (adA ad) D cA ad RX1 cX1_keep 3 := X0
  refine g_aload_n X 0 dX1_keep_0 rfl ?_
  refine g_getI X (z := 2) dX1_keep_1 lf_X1_18 rfl rfl rfl ?_
  refine g_bipush X dX1_keep_4 (by decide +kernel) ?_
  obtain ⟨q1, h⟩ := h
  refine g_icmp_lt X (tgt := 13) dX1_keep_6 (by decide) q1 (by omega) (fun c2 => ?_) (fun c2 => ?_)
  · have h := h.1 c2
    refine g_aload_n X 0 dX1_keep_13 rfl ?_
    refine g_getF X (f := 12) dX1_keep_14 lf_X1_11 rfl rfl rfl ?_
    refine g_aload_n X 0 dX1_keep_17 rfl ?_
    refine g_getI X (z := 2) dX1_keep_18 lf_X1_18 rfl rfl rfl ?_
    refine g_iload_n X 1 dX1_keep_21 rfl ?_
    obtain ⟨q3, h⟩ := h
    refine g_iast X dX1_keep_22 rfl q3.1 q3.2 ?_
    refine g_aload_n X 2 dX1_keep_23 rfl ?_
    refine g_iconst X dX1_keep_24 ?_
    refine g_aload_n X 0 dX1_keep_25 rfl ?_
    refine g_getF X (f := 13) dX1_keep_26 lf_X1_15 rfl rfl rfl ?_
    refine g_aload_n X 0 dX1_keep_29 rfl ?_
    refine g_getI X (z := 2) dX1_keep_30 lf_X1_18 rfl rfl rfl ?_
    refine g_bipush X dX1_keep_33 (by decide +kernel) ?_
    refine g_imul X dX1_keep_35 ?_
    refine g_aload_n X 2 dX1_keep_36 rfl ?_
    refine g_alen1 X (z := 43) dX1_keep_37 ha2 rfl ?_
    refine g_bipush X dX1_keep_38 (by decide +kernel) ?_
    refine g_mmin X dX1_keep_40 lm_X1_25 (by decide) (Nat.le_of_ble_eq_true rfl) ⟨by decide, by decide⟩ (by omega) (by omega) ?_
    obtain ⟨q4, h⟩ := h
    obtain ⟨q5, h⟩ := h
    obtain ⟨q6, h⟩ := h
    obtain ⟨q7, h⟩ := h
    refine g_copyI X dX1_keep_43 la_X1_31 (by decide) (Nat.le_of_ble_eq_true rfl) ha2 rfl (by decide) q4 q5 q6 q7 ?_
    refine g_aload_n X 0 dX1_keep_46 rfl ?_
    refine g_dup X dX1_keep_47 rfl ?_
    refine g_getI X (z := 2) dX1_keep_48 lf_X1_18 rfl rfl rfl ?_
    refine g_iconst X dX1_keep_51 ?_
    refine g_iadd X dX1_keep_52 ?_
    refine g_putI X (j := 2) (z := 2) dX1_keep_53 lp_X1_18 rfl rfl rfl ?_
    exact g_vret X hr hlk dX1_keep_56 ⟨rfl, h⟩
  · have h := h.2 c2
    refine g_aload_n X 0 dX1_keep_9 rfl ?_
    refine g_cVV X (K := K_X1_dropEldest) [] [] dX1_keep_10 lv_X1_22 rm_X1_keep_X1_dropEldest ⟨by decide, by decide⟩ adA_id rfl rfl rfl (Nat.le_of_ble_eq_true rfl) rfl h (fun s8 h => ?_)
    refine g_aload_n X 0 dX1_keep_13 rfl ?_
    refine g_getF X (f := 12) dX1_keep_14 lf_X1_11 rfl rfl rfl ?_
    refine g_aload_n X 0 dX1_keep_17 rfl ?_
    refine g_getI X (z := 2) dX1_keep_18 lf_X1_18 rfl rfl rfl ?_
    refine g_iload_n X 1 dX1_keep_21 rfl ?_
    obtain ⟨q9, h⟩ := h
    refine g_iast X dX1_keep_22 rfl q9.1 q9.2 ?_
    refine g_aload_n X 2 dX1_keep_23 rfl ?_
    refine g_iconst X dX1_keep_24 ?_
    refine g_aload_n X 0 dX1_keep_25 rfl ?_
    refine g_getF X (f := 13) dX1_keep_26 lf_X1_15 rfl rfl rfl ?_
    refine g_aload_n X 0 dX1_keep_29 rfl ?_
    refine g_getI X (z := 2) dX1_keep_30 lf_X1_18 rfl rfl rfl ?_
    refine g_bipush X dX1_keep_33 (by decide +kernel) ?_
    refine g_imul X dX1_keep_35 ?_
    refine g_aload_n X 2 dX1_keep_36 rfl ?_
    refine g_alen1 X (z := 43) dX1_keep_37 ha2 rfl ?_
    refine g_bipush X dX1_keep_38 (by decide +kernel) ?_
    refine g_mmin X dX1_keep_40 lm_X1_25 (by decide) (Nat.le_of_ble_eq_true rfl) ⟨by decide, by decide⟩ (by omega) (by omega) ?_
    obtain ⟨q10, h⟩ := h
    obtain ⟨q11, h⟩ := h
    obtain ⟨q12, h⟩ := h
    obtain ⟨q13, h⟩ := h
    refine g_copyI X dX1_keep_43 la_X1_31 (by decide) (Nat.le_of_ble_eq_true rfl) ha2 rfl (by decide) q10 q11 q12 q13 ?_
    refine g_aload_n X 0 dX1_keep_46 rfl ?_
    refine g_dup X dX1_keep_47 rfl ?_
    refine g_getI X (z := 2) dX1_keep_48 lf_X1_18 rfl rfl rfl ?_
    refine g_iconst X dX1_keep_51 ?_
    refine g_iadd X dX1_keep_52 ?_
    refine g_putI X (j := 2) (z := 2) dX1_keep_53 lp_X1_18 rfl rfl rfl ?_
    exact g_vret X hr hlk dX1_keep_56 ⟨rfl, h⟩
theorem eX1_keep {v1 : Int} {a2 : Nat} {σ : ASt} {Q : ASt → Prop} (ha2 : shp a2 = (1, 0, 43)) (h : i32 ((gI σ 11 2)) ∧ (((gI σ 11 2) < 12 → ((0 : Int) ≤ (gI σ 11 2) ∧ (gI σ 11 2) < 12) ∧ (0 : Int) ≤ ((gI (sI σ 12 (gI σ 11 2) v1) 11 2) * 43) ∧ (0 : Int) ≤ (if (43 : Int) < 43 then 43 else 43) ∧ (0 : Int) + (if (43 : Int) < 43 then 43 else 43) ≤ 43 ∧ (((gI (sI σ 12 (gI σ 11 2) v1) 11 2) * 43) : Int) + (if (43 : Int) < 43 then 43 else 43) ≤ 516 ∧ Q (sI (cI (sI σ 12 (gI σ 11 2) v1) a2 13 0 ((gI (sI σ 12 (gI σ 11 2) v1) 11 2) * 43) (if (43 : Int) < 43 then 43 else 43)) 11 2 ((gI (cI (sI σ 12 (gI σ 11 2) v1) a2 13 0 ((gI (sI σ 12 (gI σ 11 2) v1) 11 2) * 43) (if (43 : Int) < 43 then 43 else 43)) 11 2) + 1))) ∧ (12 ≤ (gI σ 11 2) → EvV K_X1_dropEldest [.ref 11] σ (fun s8 => ((0 : Int) ≤ (gI s8 11 2) ∧ (gI s8 11 2) < 12) ∧ (0 : Int) ≤ ((gI (sI s8 12 (gI s8 11 2) v1) 11 2) * 43) ∧ (0 : Int) ≤ (if (43 : Int) < 43 then 43 else 43) ∧ (0 : Int) + (if (43 : Int) < 43 then 43 else 43) ≤ 43 ∧ (((gI (sI s8 12 (gI s8 11 2) v1) 11 2) * 43) : Int) + (if (43 : Int) < 43 then 43 else 43) ≤ 516 ∧ Q (sI (cI (sI s8 12 (gI s8 11 2) v1) a2 13 0 ((gI (sI s8 12 (gI s8 11 2) v1) 11 2) * 43) (if (43 : Int) < 43 then 43 else 43)) 11 2 ((gI (cI (sI s8 12 (gI s8 11 2) v1) a2 13 0 ((gI (sI s8 12 (gI s8 11 2) v1) 11 2) * 43) (if (43 : Int) < 43 then 43 else 43)) 11 2) + 1)))))) : EvV K_X1_keep [.ref 11, .int (iI v1), .ref a2] σ Q := Ev.of rfl (Nat.le_of_ble_eq_true rfl) rfl (bX1_keep_0 ha2 h)
theorem bX1_latestReel_0 {σ : ASt} {Q : Int → ASt → Prop}  (h : EvZ K_X7_isWithin [.int (iI (gI σ 11 2)), .int (iI 1), .int (iI 12)] σ (fun s1 => ((0 : Int) ≤ ((gI s1 11 2) - 1) ∧ ((gI s1 11 2) - 1) < 12) ∧ i32 ((gI s1 12 ((gI s1 11 2) - 1))) ∧ Q (gI s1 12 ((gI s1 11 2) - 1)) s1) (fun s1 => Q (-1) s1)) : Wx K_X1_latestReel (QI Q) 0 [(0, .ref 11)] [] σ := by
  intro p l e s m args below meth c D cA ad X0 hr hlk
  have X : Cx p s m args c (adA ad) D cA ad RX1 cX1_latestReel 1 := X0
  refine g_aload_n X 0 dX1_latestReel_0 rfl ?_
  refine g_getI X (z := 2) dX1_latestReel_1 lf_X1_18 rfl rfl rfl ?_
  refine g_iconst X dX1_latestReel_4 ?_
  refine g_bipush X dX1_latestReel_5 (by decide +kernel) ?_
  refine g_cNZ X (K := K_X7_isWithin) [.int (iI (gI σ 11 2)), .int (iI 1), .int (iI 12)] [] dX1_latestReel_7 ln_X1_41 rm_X1_latestReel_X7_isWithin ⟨by decide, by decide⟩ adA_id rfl (Nat.le_of_ble_eq_true rfl) rfl h (fun s1 h => ?_) (fun s1 h => ?_)
  · skip
    refine g_if_eq X (tgt := 27) dX1_latestReel_10 (by decide) (by omega) (fun hc => absurd hc (by decide)) (fun _ => ?_)
    refine g_aload_n X 0 dX1_latestReel_13 rfl ?_
    refine g_getF X (f := 12) dX1_latestReel_14 lf_X1_11 rfl rfl rfl ?_
    refine g_aload_n X 0 dX1_latestReel_17 rfl ?_
    refine g_getI X (z := 2) dX1_latestReel_18 lf_X1_18 rfl rfl rfl ?_
    refine g_iconst X dX1_latestReel_21 ?_
    refine g_isub X dX1_latestReel_22 ?_
    obtain ⟨q2, h⟩ := h
    refine g_iald X dX1_latestReel_23 rfl q2.1 q2.2 ?_
    refine g_goto X (tgt := 28) dX1_latestReel_24 (by decide) ?_
    obtain ⟨q3, h⟩ := h
    exact g_iret X hr hlk dX1_latestReel_28 rfl ⟨_, rfl, q3, h⟩
  · skip
    refine g_if_eq X (tgt := 27) dX1_latestReel_10 (by decide) (by omega) (fun _ => ?_) (fun hc => absurd hc (by decide))
    refine g_iconst X dX1_latestReel_27 ?_
    exact g_iret X hr hlk dX1_latestReel_28 rfl ⟨_, rfl, (by omega), h⟩
theorem eX1_latestReel {σ : ASt} {Q : Int → ASt → Prop}  (h : EvZ K_X7_isWithin [.int (iI (gI σ 11 2)), .int (iI 1), .int (iI 12)] σ (fun s1 => ((0 : Int) ≤ ((gI s1 11 2) - 1) ∧ ((gI s1 11 2) - 1) < 12) ∧ i32 ((gI s1 12 ((gI s1 11 2) - 1))) ∧ Q (gI s1 12 ((gI s1 11 2) - 1)) s1) (fun s1 => Q (-1) s1)) : EvI K_X1_latestReel [.ref 11] σ Q := Ev.of rfl (Nat.le_of_ble_eq_true rfl) rfl (bX1_latestReel_0  h)
theorem bX1_takeLatest_0 {a1 : Nat} {σ : ASt} {Q : ASt → Prop} (ha1 : shp a1 = (1, 0, 43)) (h : EvZ K_X7_isWithin [.int (iI (gI σ 11 2)), .int (iI 1), .int (iI 12)] σ (fun s1 => (0 : Int) ≤ ((gI (sI s1 11 2 ((gI s1 11 2) - 1)) 11 2) * 43) ∧ (0 : Int) ≤ (if (43 : Int) < 43 then 43 else 43) ∧ (((gI (sI s1 11 2 ((gI s1 11 2) - 1)) 11 2) * 43) : Int) + (if (43 : Int) < 43 then 43 else 43) ≤ 516 ∧ (0 : Int) + (if (43 : Int) < 43 then 43 else 43) ≤ 43 ∧ Q (cI (sI s1 11 2 ((gI s1 11 2) - 1)) 13 a1 ((gI (sI s1 11 2 ((gI s1 11 2) - 1)) 11 2) * 43) 0 (if (43 : Int) < 43 then 43 else 43))) (fun s1 => Q s1)) : Wx K_X1_takeLatest (QV Q) 0 [(0, .ref 11), (1, .ref a1)] [] σ := by
  intro p l e s m args below meth c D cA ad X0 hr hlk
  have X : Cx p s m args c (adA ad) D cA ad RX1 cX1_takeLatest 2 := X0
  refine g_aload_n X 0 dX1_takeLatest_0 rfl ?_
  refine g_getI X (z := 2) dX1_takeLatest_1 lf_X1_18 rfl rfl rfl ?_
  refine g_iconst X dX1_takeLatest_4 ?_
  refine g_bipush X dX1_takeLatest_5 (by decide +kernel) ?_
  refine g_cNZ X (K := K_X7_isWithin) [.int (iI (gI σ 11 2)), .int (iI 1), .int (iI 12)] [] dX1_takeLatest_7 ln_X1_41 rm_X1_takeLatest_X7_isWithin ⟨by decide, by decide⟩ adA_id rfl (Nat.le_of_ble_eq_true rfl) rfl h (fun s1 h => ?_) (fun s1 h => ?_)
  · skip
    refine g_if_eq X (tgt := 46) dX1_takeLatest_10 (by decide) (by omega) (fun hc => absurd hc (by decide)) (fun _ => ?_)
    refine g_aload_n X 0 dX1_takeLatest_13 rfl ?_
    refine g_dup X dX1_takeLatest_14 rfl ?_
    refine g_getI X (z := 2) dX1_takeLatest_15 lf_X1_18 rfl rfl rfl ?_
    refine g_iconst X dX1_takeLatest_18 ?_
    refine g_isub X dX1_takeLatest_19 ?_
    refine g_putI X (j := 2) (z := 2) dX1_takeLatest_20 lp_X1_18 rfl rfl rfl ?_
    refine g_aload_n X 0 dX1_takeLatest_23 rfl ?_
    refine g_getF X (f := 13) dX1_takeLatest_24 lf_X1_15 rfl rfl rfl ?_
    refine g_aload_n X 0 dX1_takeLatest_27 rfl ?_
    refine g_getI X (z := 2) dX1_takeLatest_28 lf_X1_18 rfl rfl rfl ?_
    refine g_bipush X dX1_takeLatest_31 (by decide +kernel) ?_
    refine g_imul X dX1_takeLatest_33 ?_
    refine g_aload_n X 1 dX1_takeLatest_34 rfl ?_
    refine g_iconst X dX1_takeLatest_35 ?_
    refine g_aload_n X 1 dX1_takeLatest_36 rfl ?_
    refine g_alen1 X (z := 43) dX1_takeLatest_37 ha1 rfl ?_
    refine g_bipush X dX1_takeLatest_38 (by decide +kernel) ?_
    refine g_mmin X dX1_takeLatest_40 lm_X1_25 (by decide) (Nat.le_of_ble_eq_true rfl) ⟨by decide, by decide⟩ (by omega) (by omega) ?_
    obtain ⟨q2, h⟩ := h
    obtain ⟨q3, h⟩ := h
    obtain ⟨q4, h⟩ := h
    obtain ⟨q5, h⟩ := h
    refine g_copyI X dX1_takeLatest_43 la_X1_31 (by decide) (Nat.le_of_ble_eq_true rfl) rfl ha1 q2 (by decide) q3 q4 q5 ?_
    exact g_vret X hr hlk dX1_takeLatest_46 ⟨rfl, h⟩
  · skip
    refine g_if_eq X (tgt := 46) dX1_takeLatest_10 (by decide) (by omega) (fun _ => ?_) (fun hc => absurd hc (by decide))
    exact g_vret X hr hlk dX1_takeLatest_46 ⟨rfl, h⟩
theorem eX1_takeLatest {a1 : Nat} {σ : ASt} {Q : ASt → Prop} (ha1 : shp a1 = (1, 0, 43)) (h : EvZ K_X7_isWithin [.int (iI (gI σ 11 2)), .int (iI 1), .int (iI 12)] σ (fun s1 => (0 : Int) ≤ ((gI (sI s1 11 2 ((gI s1 11 2) - 1)) 11 2) * 43) ∧ (0 : Int) ≤ (if (43 : Int) < 43 then 43 else 43) ∧ (((gI (sI s1 11 2 ((gI s1 11 2) - 1)) 11 2) * 43) : Int) + (if (43 : Int) < 43 then 43 else 43) ≤ 516 ∧ (0 : Int) + (if (43 : Int) < 43 then 43 else 43) ≤ 43 ∧ Q (cI (sI s1 11 2 ((gI s1 11 2) - 1)) 13 a1 ((gI (sI s1 11 2 ((gI s1 11 2) - 1)) 11 2) * 43) 0 (if (43 : Int) < 43 then 43 else 43))) (fun s1 => Q s1)) : EvV K_X1_takeLatest [.ref 11, .ref a1] σ Q := Ev.of rfl (Nat.le_of_ble_eq_true rfl) rfl (bX1_takeLatest_0 ha1 h)
