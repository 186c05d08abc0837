/-! by program: the block rules of class 2 -/
theorem bX2_become_0 {a0 : Nat} {v1 : Int} {σ : ASt} {Q : ASt → Prop} (ha0 : shp a0 = (0, 2, 0)) (h32v1 : i32 v1) (h : i32 ((if (60 : Int) < v1 then 60 else v1)) ∧ Wx K_X2_become (QV Q) 16 [(0, .ref a0), (2, .int (iI 0))] [] (sI σ a0 1 (if ((-1) : Int) < (if (60 : Int) < v1 then 60 else v1) then (if (60 : Int) < v1 then 60 else v1) else (-1)))) : Wx K_X2_become (QV Q) 0 [(0, .ref a0), (1, .int (iI v1))] [] σ := by
  intro p l e s m args below meth c D cA ad X0 hr hlk
  have X : Cx p s m args c (adA ad) D cA ad RX2 cX2_become 3 := X0
  refine g_aload_n X 0 dX2_become_0 rfl ?_
  refine g_iconst X dX2_become_1 ?_
  refine g_iload_n X 1 dX2_become_2 rfl ?_
  refine g_bipush X dX2_become_3 (by decide +kernel) ?_
  refine g_mmin X dX2_become_5 lm_X2_19 (by decide) (Nat.le_of_ble_eq_true rfl) ⟨by decide, by decide⟩ h32v1 (by omega) ?_
  obtain ⟨q1, h⟩ := h
  refine g_mmax X dX2_become_8 lm_X2_25 (by decide) (Nat.le_of_ble_eq_true rfl) ⟨by decide, by decide⟩ (by omega) q1 ?_
  refine g_putI X (j := 1) (z := 1) dX2_become_11 lp_X2_15 ha0 rfl rfl ?_
  refine g_iconst X dX2_become_14 ?_
  refine g_istore_n X (lv' := [(2, .int (iI 0)), (0, .ref a0), (1, .int (iI v1))]) dX2_become_15 (by decide) rfl ?_
  exact g_sub (lv' := [(0, .ref a0), (2, .int (iI 0))]) [1, 0] rfl (h p l e s m args below meth c D cA ad X0 hr hlk)
theorem eX2_become {a0 : Nat} {v1 : Int} {σ : ASt} {Q : ASt → Prop} (ha0 : shp a0 = (0, 2, 0)) (h32v1 : i32 v1) (h : i32 ((if (60 : Int) < v1 then 60 else v1)) ∧ Wx K_X2_become (QV Q) 16 [(0, .ref a0), (2, .int (iI 0))] [] (sI σ a0 1 (if ((-1) : Int) < (if (60 : Int) < v1 then 60 else v1) then (if (60 : Int) < v1 then 60 else v1) else (-1)))) : EvV K_X2_become [.ref a0, .int (iI v1)] σ Q := Ev.of rfl (Nat.le_of_ble_eq_true rfl) rfl (bX2_become_0 ha0 h32v1 h)
theorem bX2_become_16 {a0 : Nat} {v2 : Int} {σ : ASt} {Q : ASt → Prop} (ha0 : shp a0 = (0, 2, 0)) (h32v2 : i32 v2) (h : ((60 ≤ v2 → Q σ) ∧ (v2 < 60 → ((0 : Int) ≤ v2 ∧ v2 < 60) ∧ Wx K_X2_become (QV Q) 16 [(0, .ref a0), (2, .int (iI (v2 + 1)))] [] (sL σ (a0 + 3) v2 0)))) : Wx K_X2_become (QV Q) 16 [(0, .ref a0), (2, .int (iI v2))] [] σ := by
  intro p l e s m args below meth c D cA ad X0 hr hlk
  have X : Cx p s m args c (adA ad) D cA ad RX2 cX2_become 3 := X0
  refine g_iload_n X 1 dX2_become_16 rfl ?_
  refine g_bipush X dX2_become_17 (by decide +kernel) ?_
  refine g_icmp_ge X (tgt := 35) dX2_become_19 (by decide) h32v2 (by omega) (fun c1 => ?_) (fun c1 => ?_)
  · have h := h.1 c1
    exact g_vret X hr hlk dX2_become_35 ⟨rfl, h⟩
  · have h := h.2 c1
    refine g_aload_n X 0 dX2_become_22 rfl ?_
    refine g_getF X (f := (a0 + 3)) dX2_become_23 lf_X2_11 ha0 rfl (fn_2_0 ha0) ?_
    refine g_iload_n X 1 dX2_become_26 rfl ?_
    refine g_lconst X (z := 0) dX2_become_27 (by decide +kernel) ?_
    obtain ⟨q2, h⟩ := h
    refine g_last X dX2_become_28 (sf_2_0 ha0) q2.1 q2.2 ?_
    refine g_iinc X (x := v2) (lv' := [(2, .int (iI (v2 + 1))), (0, .ref a0)]) 1 dX2_become_29 rfl (by decide) rfl ?_
    refine g_goto X (tgt := 16) dX2_become_32 (by decide) ?_
    exact g_sub (lv' := [(0, .ref a0), (2, .int (iI (v2 + 1)))]) [1, 0] rfl (h p l e s m args below meth c D cA ad X0 hr hlk)
theorem bX2_hasPlace_0 {a0 : Nat} {v1 : Int} {σ : ASt} {QT QF : ASt → Prop} (ha0 : shp a0 = (0, 2, 0)) (h32v1 : i32 v1) (h : ((v1 < 0 → QF σ) ∧ (0 ≤ v1 → i32 ((gI σ a0 1)) ∧ (((gI σ a0 1) ≤ v1 → QF σ) ∧ (v1 < (gI σ a0 1) → ((60 ≤ v1 → QF σ) ∧ (v1 < 60 → QT σ))))))) : Wx K_X2_hasPlace (QZ QT QF) 0 [(0, .ref a0), (1, .int (iI v1))] [] σ := by
  intro p l e s m args below meth c D cA ad X0 hr hlk
  have X : Cx p s m args c (adA ad) D cA ad RX2 cX2_hasPlace 2 := X0
  refine g_iload_n X 1 dX2_hasPlace_0 rfl ?_
  refine g_if_lt X (tgt := 22) dX2_hasPlace_1 (by decide) h32v1 (fun c1 => ?_) (fun c1 => ?_)
  · have h := h.1 c1
    refine g_iconst X dX2_hasPlace_22 ?_
    exact g_iret X hr hlk dX2_hasPlace_23 rfl (Or.inr ⟨rfl, h⟩)
  · have h := h.2 c1
    refine g_iload_n X 1 dX2_hasPlace_4 rfl ?_
    refine g_aload_n X 0 dX2_hasPlace_5 rfl ?_
    refine g_getI X (z := 1) dX2_hasPlace_6 lf_X2_15 ha0 rfl rfl ?_
    obtain ⟨q2, h⟩ := h
    refine g_icmp_ge X (tgt := 22) dX2_hasPlace_9 (by decide) h32v1 q2 (fun c3 => ?_) (fun c3 => ?_)
    · have h := h.1 c3
      refine g_iconst X dX2_hasPlace_22 ?_
      exact g_iret X hr hlk dX2_hasPlace_23 rfl (Or.inr ⟨rfl, h⟩)
    · have h := h.2 c3
      refine g_iload_n X 1 dX2_hasPlace_12 rfl ?_
      refine g_bipush X dX2_hasPlace_13 (by decide +kernel) ?_
      refine g_icmp_ge X (tgt := 22) dX2_hasPlace_15 (by decide) h32v1 (by omega) (fun c4 => ?_) (fun c4 => ?_)
      · have h := h.1 c4
        refine g_iconst X dX2_hasPlace_22 ?_
        exact g_iret X hr hlk dX2_hasPlace_23 rfl (Or.inr ⟨rfl, h⟩)
      · have h := h.2 c4
        refine g_iconst X dX2_hasPlace_18 ?_
        refine g_goto X (tgt := 23) dX2_hasPlace_19 (by decide) ?_
        exact g_iret X hr hlk dX2_hasPlace_23 rfl (Or.inl ⟨rfl, h⟩)
theorem eX2_hasPlace {a0 : Nat} {v1 : Int} {σ : ASt} {QT QF : ASt → Prop} (ha0 : shp a0 = (0, 2, 0)) (h32v1 : i32 v1) (h : ((v1 < 0 → QF σ) ∧ (0 ≤ v1 → i32 ((gI σ a0 1)) ∧ (((gI σ a0 1) ≤ v1 → QF σ) ∧ (v1 < (gI σ a0 1) → ((60 ≤ v1 → QF σ) ∧ (v1 < 60 → QT σ))))))) : EvZ K_X2_hasPlace [.ref a0, .int (iI v1)] σ QT QF := Ev.of rfl (Nat.le_of_ble_eq_true rfl) rfl (bX2_hasPlace_0 ha0 h32v1 h)
theorem bX2_digitsInto_0 {a0 : Nat} {a1 : Nat} {v2 : Int} {σ : ASt} {QT QF : ASt → Prop} (ha0 : shp a0 = (0, 2, 0)) (ha1 : shp a1 = (1, 0, 43)) (h32v2 : i32 v2) (h : i32 ((gI σ a0 1)) ∧ (((gI σ a0 1) ≤ v2 → Wx K_X2_digitsInto (QZ QT QF) 12 [(0, .ref a0), (1, .ref a1), (3, .int (iI 0))] [] σ) ∧ (v2 < (gI σ a0 1) → QF σ))) : Wx K_X2_digitsInto (QZ QT QF) 0 [(0, .ref a0), (1, .ref a1), (2, .int (iI v2))] [] σ := by
  intro p l e s m args below meth c D cA ad X0 hr hlk
  have X : Cx p s m args c (adA ad) D cA ad RX2 cX2_digitsInto 6 := X0
  refine g_aload_n X 0 dX2_digitsInto_0 rfl ?_
  refine g_getI X (z := 1) dX2_digitsInto_1 lf_X2_15 ha0 rfl rfl ?_
  refine g_iload_n X 2 dX2_digitsInto_4 rfl ?_
  obtain ⟨q1, h⟩ := h
  refine g_icmp_le X (tgt := 10) dX2_digitsInto_5 (by decide) q1 h32v2 (fun c2 => ?_) (fun c2 => ?_)
  · have h := h.1 c2
    refine g_iconst X dX2_digitsInto_10 ?_
    refine g_istore_n X (lv' := [(3, .int (iI 0)), (0, .ref a0), (1, .ref a1), (2, .int (iI v2))]) dX2_digitsInto_11 (by decide) rfl ?_
    exact g_sub (lv' := [(0, .ref a0), (1, .ref a1), (3, .int (iI 0))]) [1, 2, 0] rfl (h p l e s m args below meth c D cA ad X0 hr hlk)
  · have h := h.2 c2
    refine g_iconst X dX2_digitsInto_8 ?_
    exact g_iret X hr hlk dX2_digitsInto_9 rfl (Or.inr ⟨rfl, h⟩)
theorem eX2_digitsInto {a0 : Nat} {a1 : Nat} {v2 : Int} {σ : ASt} {QT QF : ASt → Prop} (ha0 : shp a0 = (0, 2, 0)) (ha1 : shp a1 = (1, 0, 43)) (h32v2 : i32 v2) (h : i32 ((gI σ a0 1)) ∧ (((gI σ a0 1) ≤ v2 → Wx K_X2_digitsInto (QZ QT QF) 12 [(0, .ref a0), (1, .ref a1), (3, .int (iI 0))] [] σ) ∧ (v2 < (gI σ a0 1) → QF σ))) : EvZ K_X2_digitsInto [.ref a0, .ref a1, .int (iI v2)] σ QT QF := Ev.of rfl (Nat.le_of_ble_eq_true rfl) rfl (bX2_digitsInto_0 ha0 ha1 h32v2 h)
theorem bX2_digitsInto_12 {a0 : Nat} {a1 : Nat} {v3 : Int} {σ : ASt} {QT QF : ASt → Prop} (ha0 : shp a0 = (0, 2, 0)) (ha1 : shp a1 = (1, 0, 43)) (h32v3 : i32 v3) (h : ((43 ≤ v3 → QT σ) ∧ (v3 < 43 → EvZ K_X2_hasPlace [.ref a0, .int (iI v3)] σ (fun s2 => ((0 : Int) ≤ v3 ∧ v3 < 60) ∧ i64 ((gL s2 (a0 + 3) v3)) ∧ (((gL s2 (a0 + 3) v3) < 0 → QF s2) ∧ (0 ≤ (gL s2 (a0 + 3) v3) → (((gL s2 (a0 + 3) v3) ≤ 99 → ((0 : Int) ≤ v3 ∧ v3 < 43) ∧ Wx K_X2_digitsInto (QZ QT QF) 12 [(0, .ref a0), (1, .ref a1), (3, .int (iI (v3 + 1)))] [] (sI s2 a1 v3 (gL s2 (a0 + 3) v3))) ∧ (99 < (gL s2 (a0 + 3) v3) → QF s2))))) (fun s2 => ((0 : Int) ≤ v3 ∧ v3 < 43) ∧ Wx K_X2_digitsInto (QZ QT QF) 12 [(0, .ref a0), (1, .ref a1), (3, .int (iI (v3 + 1)))] [] (sI s2 a1 v3 0))))) : Wx K_X2_digitsInto (QZ QT QF) 12 [(0, .ref a0), (1, .ref a1), (3, .int (iI v3))] [] σ := by
  intro p l e s m args below meth c D cA ad X0 hr hlk
  have X : Cx p s m args c (adA ad) D cA ad RX2 cX2_digitsInto 6 := X0
  refine g_iload_n X 2 dX2_digitsInto_12 rfl ?_
  refine g_aload_n X 1 dX2_digitsInto_13 rfl ?_
  refine g_alen1 X (z := 43) dX2_digitsInto_14 ha1 rfl ?_
  refine g_icmp_ge X (tgt := 68) dX2_digitsInto_15 (by decide) h32v3 (by omega) (fun c1 => ?_) (fun c1 => ?_)
  · have h := h.1 c1
    refine g_iconst X dX2_digitsInto_68 ?_
    exact g_iret X hr hlk dX2_digitsInto_69 rfl (Or.inl ⟨rfl, h⟩)
  · have h := h.2 c1
    refine g_aload_n X 0 dX2_digitsInto_18 rfl ?_
    refine g_iload_n X 2 dX2_digitsInto_19 rfl ?_
    refine g_cVZ X (K := K_X2_hasPlace) [.int (iI v3)] [] dX2_digitsInto_20 lv_X2_28 rm_X2_digitsInto_X2_hasPlace ⟨by decide, by decide⟩ adA_id ha0 rfl rfl (Nat.le_of_ble_eq_true rfl) rfl h (fun s2 h => ?_) (fun s2 h => ?_)
    · skip
      refine g_if_eq X (tgt := 35) dX2_digitsInto_23 (by decide) (by omega) (fun hc => absurd hc (by decide)) (fun _ => ?_)
      refine g_aload_n X 0 dX2_digitsInto_26 rfl ?_
      refine g_getF X (f := (a0 + 3)) dX2_digitsInto_27 lf_X2_11 ha0 rfl (fn_2_0 ha0) ?_
      refine g_iload_n X 2 dX2_digitsInto_30 rfl ?_
      obtain ⟨q3, h⟩ := h
      refine g_lald X dX2_digitsInto_31 (sf_2_0 ha0) q3.1 q3.2 ?_
      refine g_goto X (tgt := 36) dX2_digitsInto_32 (by decide) ?_
      refine g_lstore X (lv' := [(4, .long (lI (gL s2 (a0 + 3) v3))), (0, .ref a0), (1, .ref a1), (3, .int (iI v3))]) dX2_digitsInto_36 (by decide) rfl ?_
      refine g_lload X 0 dX2_digitsInto_38 rfl ?_
      refine g_lconst X (z := 0) dX2_digitsInto_40 (by decide +kernel) ?_
      obtain ⟨q4, h⟩ := h
      refine g_lc_lt X (tgt := 54) dX2_digitsInto_41 dX2_digitsInto_42 (by decide) q4 (by omega) (fun c5 => ?_) (fun c5 => ?_)
      · have h := h.1 c5
        refine g_iconst X dX2_digitsInto_54 ?_
        exact g_iret X hr hlk dX2_digitsInto_55 rfl (Or.inr ⟨rfl, h⟩)
      · have h := h.2 c5
        refine g_lload X 0 dX2_digitsInto_45 rfl ?_
        refine g_ldc2 X (z := 99) dX2_digitsInto_47 lc_X2_32 (by decide +kernel) ?_
        refine g_lc_le X (tgt := 56) dX2_digitsInto_50 dX2_digitsInto_51 (by decide) q4 (by omega) (fun c6 => ?_) (fun c6 => ?_)
        · have h := h.1 c6
          refine g_aload_n X 2 dX2_digitsInto_56 rfl ?_
          refine g_iload_n X 3 dX2_digitsInto_57 rfl ?_
          refine g_lload X 0 dX2_digitsInto_58 rfl ?_
          refine g_l2i X dX2_digitsInto_60 ?_
          obtain ⟨q7, h⟩ := h
          refine g_iast X dX2_digitsInto_61 ha1 q7.1 q7.2 ?_
          refine g_iinc X (x := v3) (lv' := [(3, .int (iI (v3 + 1))), (4, .long (lI (gL s2 (a0 + 3) v3))), (0, .ref a0), (1, .ref a1)]) 3 dX2_digitsInto_62 rfl (by decide) rfl ?_
          refine g_goto X (tgt := 12) dX2_digitsInto_65 (by decide) ?_
          exact g_sub (lv' := [(0, .ref a0), (1, .ref a1), (3, .int (iI (v3 + 1)))]) [2, 3, 0] rfl (h p l e s m args below meth c D cA ad X0 hr hlk)
        · have h := h.2 c6
          refine g_iconst X dX2_digitsInto_54 ?_
          exact g_iret X hr hlk dX2_digitsInto_55 rfl (Or.inr ⟨rfl, h⟩)
    · skip
      refine g_if_eq X (tgt := 35) dX2_digitsInto_23 (by decide) (by omega) (fun _ => ?_) (fun hc => absurd hc (by decide))
      refine g_lconst X (z := 0) dX2_digitsInto_35 (by decide +kernel) ?_
      refine g_lstore X (lv' := [(4, .long (lI 0)), (0, .ref a0), (1, .ref a1), (3, .int (iI v3))]) dX2_digitsInto_36 (by decide) rfl ?_
      refine g_lload X 0 dX2_digitsInto_38 rfl ?_
      refine g_lconst X (z := 0) dX2_digitsInto_40 (by decide +kernel) ?_
      refine g_lc_lt X (tgt := 54) dX2_digitsInto_41 dX2_digitsInto_42 (by decide) (by omega) (by omega) (fun hc => absurd hc (by decide)) (fun _ => ?_)
      refine g_lload X 0 dX2_digitsInto_45 rfl ?_
      refine g_ldc2 X (z := 99) dX2_digitsInto_47 lc_X2_32 (by decide +kernel) ?_
      refine g_lc_le X (tgt := 56) dX2_digitsInto_50 dX2_digitsInto_51 (by decide) (by omega) (by omega) (fun _ => ?_) (fun hc => absurd hc (by decide))
      refine g_aload_n X 2 dX2_digitsInto_56 rfl ?_
      refine g_iload_n X 3 dX2_digitsInto_57 rfl ?_
      refine g_lload X 0 dX2_digitsInto_58 rfl ?_
      refine g_l2i X dX2_digitsInto_60 ?_
      obtain ⟨q8, h⟩ := h
      refine g_iast X dX2_digitsInto_61 ha1 q8.1 q8.2 ?_
      refine g_iinc X (x := v3) (lv' := [(3, .int (iI (v3 + 1))), (4, .long (lI 0)), (0, .ref a0), (1, .ref a1)]) 3 dX2_digitsInto_62 rfl (by decide) rfl ?_
      refine g_goto X (tgt := 12) dX2_digitsInto_65 (by decide) ?_
      exact g_sub (lv' := [(0, .ref a0), (1, .ref a1), (3, .int (iI (v3 + 1)))]) [2, 3, 0] rfl (h p l e s m args below meth c D cA ad X0 hr hlk)
theorem bX2_hasRange_0 {a0 : Nat} {v1 : Int} {v2 : Int} {σ : ASt} {QT QF : ASt → Prop} (ha0 : shp a0 = (0, 2, 0)) (h32v1 : i32 v1) (h32v2 : i32 v2) (h : ((v1 < 0 → QF σ) ∧ (0 ≤ v1 → ((v2 < 0 → QF σ) ∧ (0 ≤ v2 → i32 ((gI σ a0 1)) ∧ (((gI σ a0 1) < v1 → QF σ) ∧ (v1 ≤ (gI σ a0 1) → i32 (((gI σ a0 1) - v1)) ∧ ((((gI σ a0 1) - v1) < v2 → QF σ) ∧ (v2 ≤ ((gI σ a0 1) - v1) → QT σ))))))))) : Wx K_X2_hasRange (QZ QT QF) 0 [(0, .ref a0), (1, .int (iI v1)), (2, .int (iI v2))] [] σ := by
  intro p l e s m args below meth c D cA ad X0 hr hlk
  have X : Cx p s m args c (adA ad) D cA ad RX2 cX2_hasRange 3 := X0
  refine g_iload_n X 1 dX2_hasRange_0 rfl ?_
  refine g_if_lt X (tgt := 30) dX2_hasRange_1 (by decide) h32v1 (fun c1 => ?_) (fun c1 => ?_)
  · have h := h.1 c1
    refine g_iconst X dX2_hasRange_30 ?_
    exact g_iret X hr hlk dX2_hasRange_31 rfl (Or.inr ⟨rfl, h⟩)
  · have h := h.2 c1
    refine g_iload_n X 2 dX2_hasRange_4 rfl ?_
    refine g_if_lt X (tgt := 30) dX2_hasRange_5 (by decide) h32v2 (fun c2 => ?_) (fun c2 => ?_)
    · have h := h.1 c2
      refine g_iconst X dX2_hasRange_30 ?_
      exact g_iret X hr hlk dX2_hasRange_31 rfl (Or.inr ⟨rfl, h⟩)
    · have h := h.2 c2
      refine g_iload_n X 1 dX2_hasRange_8 rfl ?_
      refine g_aload_n X 0 dX2_hasRange_9 rfl ?_
      refine g_getI X (z := 1) dX2_hasRange_10 lf_X2_15 ha0 rfl rfl ?_
      obtain ⟨q3, h⟩ := h
      refine g_icmp_gt X (tgt := 30) dX2_hasRange_13 (by decide) h32v1 q3 (fun c4 => ?_) (fun c4 => ?_)
      · have h := h.1 c4
        refine g_iconst X dX2_hasRange_30 ?_
        exact g_iret X hr hlk dX2_hasRange_31 rfl (Or.inr ⟨rfl, h⟩)
      · have h := h.2 c4
        refine g_iload_n X 2 dX2_hasRange_16 rfl ?_
        refine g_aload_n X 0 dX2_hasRange_17 rfl ?_
        refine g_getI X (z := 1) dX2_hasRange_18 lf_X2_15 ha0 rfl rfl ?_
        refine g_iload_n X 1 dX2_hasRange_21 rfl ?_
        refine g_isub X dX2_hasRange_22 ?_
        obtain ⟨q5, h⟩ := h
        refine g_icmp_gt X (tgt := 30) dX2_hasRange_23 (by decide) h32v2 q5 (fun c6 => ?_) (fun c6 => ?_)
        · have h := h.1 c6
          refine g_iconst X dX2_hasRange_30 ?_
          exact g_iret X hr hlk dX2_hasRange_31 rfl (Or.inr ⟨rfl, h⟩)
        · have h := h.2 c6
          refine g_iconst X dX2_hasRange_26 ?_
          refine g_goto X (tgt := 31) dX2_hasRange_27 (by decide) ?_
          exact g_iret X hr hlk dX2_hasRange_31 rfl (Or.inl ⟨rfl, h⟩)
theorem eX2_hasRange {a0 : Nat} {v1 : Int} {v2 : Int} {σ : ASt} {QT QF : ASt → Prop} (ha0 : shp a0 = (0, 2, 0)) (h32v1 : i32 v1) (h32v2 : i32 v2) (h : ((v1 < 0 → QF σ) ∧ (0 ≤ v1 → ((v2 < 0 → QF σ) ∧ (0 ≤ v2 → i32 ((gI σ a0 1)) ∧ (((gI σ a0 1) < v1 → QF σ) ∧ (v1 ≤ (gI σ a0 1) → i32 (((gI σ a0 1) - v1)) ∧ ((((gI σ a0 1) - v1) < v2 → QF σ) ∧ (v2 ≤ ((gI σ a0 1) - v1) → QT σ))))))))) : EvZ K_X2_hasRange [.ref a0, .int (iI v1), .int (iI v2)] σ QT QF := Ev.of rfl (Nat.le_of_ble_eq_true rfl) rfl (bX2_hasRange_0 ha0 h32v1 h32v2 h)
theorem bX2_isMissing_0 {a0 : Nat} {σ : ASt} {QT QF : ASt → Prop} (ha0 : shp a0 = (0, 2, 0)) (h : i32 ((gI σ a0 1)) ∧ (((gI σ a0 1) ≠ (-1) → QF σ) ∧ ((gI σ a0 1) = (-1) → QT σ))) : Wx K_X2_isMissing (QZ QT QF) 0 [(0, .ref a0)] [] σ := by
  intro p l e s m args below meth c D cA ad X0 hr hlk
  have X : Cx p s m args c (adA ad) D cA ad RX2 cX2_isMissing 1 := X0
  refine g_aload_n X 0 dX2_isMissing_0 rfl ?_
  refine g_getI X (z := 1) dX2_isMissing_1 lf_X2_15 ha0 rfl rfl ?_
  refine g_iconst X dX2_isMissing_4 ?_
  obtain ⟨q1, h⟩ := h
  refine g_icmp_ne X (tgt := 12) dX2_isMissing_5 (by decide) q1 (by omega) (fun c2 => ?_) (fun c2 => ?_)
  · have h := h.1 c2
    refine g_iconst X dX2_isMissing_12 ?_
    exact g_iret X hr hlk dX2_isMissing_13 rfl (Or.inr ⟨rfl, h⟩)
  · have h := h.2 c2
    refine g_iconst X dX2_isMissing_8 ?_
    refine g_goto X (tgt := 13) dX2_isMissing_9 (by decide) ?_
    exact g_iret X hr hlk dX2_isMissing_13 rfl (Or.inl ⟨rfl, h⟩)
theorem eX2_isMissing {a0 : Nat} {σ : ASt} {QT QF : ASt → Prop} (ha0 : shp a0 = (0, 2, 0)) (h : i32 ((gI σ a0 1)) ∧ (((gI σ a0 1) ≠ (-1) → QF σ) ∧ ((gI σ a0 1) = (-1) → QT σ))) : EvZ K_X2_isMissing [.ref a0] σ QT QF := Ev.of rfl (Nat.le_of_ble_eq_true rfl) rfl (bX2_isMissing_0 ha0 h)
