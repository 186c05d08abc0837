/-! by program: the block rules of class 0 -/
theorem bX0_allows_0 {a0 : Nat} {a1 : Nat} {σ : ASt} {QT QF : ASt → Prop} (ha0 : shp a0 = (0, 0, 0)) (ha1 : shp a1 = (1, 0, 43)) (h : Wx K_X0_allows (QZ QT QF) 2 [(0, .ref a0), (1, .ref a1), (2, .int (iI 0))] [] σ) : Wx K_X0_allows (QZ QT QF) 0 [(0, .ref a0), (1, .ref a1)] [] σ := by
  intro p l e s m args below meth c D cA ad X0 hr hlk
  have X : Cx p s m args c (adA ad) D cA ad RX0 cX0_allows 3 := X0
  refine g_iconst X dX0_allows_0 ?_
  refine g_istore_n X (lv' := [(2, .int (iI 0)), (0, .ref a0), (1, .ref a1)]) dX0_allows_1 (by decide) rfl ?_
  exact g_sub (lv' := [(0, .ref a0), (1, .ref a1), (2, .int (iI 0))]) [1, 2, 0] rfl (h p l e s m args below meth c D cA ad X0 hr hlk)
theorem eX0_allows {a0 : Nat} {a1 : Nat} {σ : ASt} {QT QF : ASt → Prop} (ha0 : shp a0 = (0, 0, 0)) (ha1 : shp a1 = (1, 0, 43)) (h : Wx K_X0_allows (QZ QT QF) 2 [(0, .ref a0), (1, .ref a1), (2, .int (iI 0))] [] σ) : EvZ K_X0_allows [.ref a0, .ref a1] σ QT QF := Ev.of rfl (Nat.le_of_ble_eq_true rfl) rfl (bX0_allows_0 ha0 ha1 h)
theorem bX0_allows_2 {a0 : Nat} {a1 : Nat} {v2 : Int} {σ : ASt} {QT QF : ASt → Prop} (ha0 : shp a0 = (0, 0, 0)) (ha1 : shp a1 = (1, 0, 43)) (h32v2 : i32 v2) (h : ((43 ≤ v2 → QT σ) ∧ (v2 < 43 → ((43 ≤ v2 → QT σ) ∧ (v2 < 43 → ((0 : Int) ≤ v2 ∧ v2 < 43) ∧ i32 ((gI σ a1 v2)) ∧ i32 ((gI σ (a0 + 6) v2)) ∧ (((gI σ (a0 + 6) v2) < (gI σ a1 v2) → QF σ) ∧ ((gI σ a1 v2) ≤ (gI σ (a0 + 6) v2) → (((gI σ a1 v2) ≠ (gI σ (a0 + 6) v2) → Wx K_X0_allows (QZ QT QF) 2 [(0, .ref a0), (1, .ref a1), (2, .int (iI (v2 + 1)))] [] σ) ∧ ((gI σ a1 v2) = (gI σ (a0 + 6) v2) → ((v2 ≤ 0 → Wx K_X0_allows (QZ QT QF) 2 [(0, .ref a0), (1, .ref a1), (2, .int (iI (v2 + 1)))] [] σ) ∧ (0 < v2 → ((0 : Int) ≤ (v2 - 1) ∧ (v2 - 1) < 43) ∧ i32 ((gI σ a1 (v2 - 1))) ∧ (((gI σ a1 (v2 - 1)) = 0 → Wx K_X0_allows (QZ QT QF) 2 [(0, .ref a0), (1, .ref a1), (2, .int (iI (v2 + 1)))] [] σ) ∧ ((gI σ a1 (v2 - 1)) ≠ 0 → QF σ))))))))))))) : Wx K_X0_allows (QZ QT QF) 2 [(0, .ref a0), (1, .ref a1), (2, .int (iI v2))] [] σ := by
  intro p l e s m args below meth c D cA ad X0 hr hlk
  have X : Cx p s m args c (adA ad) D cA ad RX0 cX0_allows 3 := X0
  refine g_iload_n X 2 dX0_allows_2 rfl ?_
  refine g_aload_n X 1 dX0_allows_3 rfl ?_
  refine g_alen1 X (z := 43) dX0_allows_4 ha1 rfl ?_
  refine g_icmp_ge X (tgt := 61) dX0_allows_5 (by decide) h32v2 (by omega) (fun c1 => ?_) (fun c1 => ?_)
  · have h := h.1 c1
    refine g_iconst X dX0_allows_61 ?_
    exact g_iret X hr hlk dX0_allows_62 rfl (Or.inl ⟨rfl, h⟩)
  · have h := h.2 c1
    refine g_iload_n X 2 dX0_allows_8 rfl ?_
    refine g_aload_n X 0 dX0_allows_9 rfl ?_
    refine g_getF X (f := (a0 + 6)) dX0_allows_10 lf_X0_9 ha0 rfl (fn_0_1 ha0) ?_
    refine g_alen1 X (z := 43) dX0_allows_13 (sf_0_1 ha0) rfl ?_
    refine g_icmp_ge X (tgt := 61) dX0_allows_14 (by decide) h32v2 (by omega) (fun c2 => ?_) (fun c2 => ?_)
    · have h := h.1 c2
      refine g_iconst X dX0_allows_61 ?_
      exact g_iret X hr hlk dX0_allows_62 rfl (Or.inl ⟨rfl, h⟩)
    · have h := h.2 c2
      refine g_aload_n X 1 dX0_allows_17 rfl ?_
      refine g_iload_n X 2 dX0_allows_18 rfl ?_
      obtain ⟨q3, h⟩ := h
      refine g_iald X dX0_allows_19 ha1 q3.1 q3.2 ?_
      refine g_aload_n X 0 dX0_allows_20 rfl ?_
      refine g_getF X (f := (a0 + 6)) dX0_allows_21 lf_X0_9 ha0 rfl (fn_0_1 ha0) ?_
      refine g_iload_n X 2 dX0_allows_24 rfl ?_
      refine g_iald X dX0_allows_25 (sf_0_1 ha0) q3.1 q3.2 ?_
      obtain ⟨q4, h⟩ := h
      obtain ⟨q5, h⟩ := h
      refine g_icmp_gt X (tgt := 53) dX0_allows_26 (by decide) q4 q5 (fun c6 => ?_) (fun c6 => ?_)
      · have h := h.1 c6
        refine g_iconst X dX0_allows_53 ?_
        exact g_iret X hr hlk dX0_allows_54 rfl (Or.inr ⟨rfl, h⟩)
      · have h := h.2 c6
        refine g_aload_n X 1 dX0_allows_29 rfl ?_
        refine g_iload_n X 2 dX0_allows_30 rfl ?_
        refine g_iald X dX0_allows_31 ha1 q3.1 q3.2 ?_
        refine g_aload_n X 0 dX0_allows_32 rfl ?_
        refine g_getF X (f := (a0 + 6)) dX0_allows_33 lf_X0_9 ha0 rfl (fn_0_1 ha0) ?_
        refine g_iload_n X 2 dX0_allows_36 rfl ?_
        refine g_iald X dX0_allows_37 (sf_0_1 ha0) q3.1 q3.2 ?_
        refine g_icmp_ne X (tgt := 55) dX0_allows_38 (by decide) q4 q5 (fun c7 => ?_) (fun c7 => ?_)
        · have h := h.1 c7
          refine g_iinc X (x := v2) (lv' := [(2, .int (iI (v2 + 1))), (0, .ref a0), (1, .ref a1)]) 2 dX0_allows_55 rfl (by decide) rfl ?_
          refine g_goto X (tgt := 2) dX0_allows_58 (by decide) ?_
          exact g_sub (lv' := [(0, .ref a0), (1, .ref a1), (2, .int (iI (v2 + 1)))]) [1, 2, 0] rfl (h p l e s m args below meth c D cA ad X0 hr hlk)
        · have h := h.2 c7
          refine g_iload_n X 2 dX0_allows_41 rfl ?_
          refine g_if_le X (tgt := 55) dX0_allows_42 (by decide) h32v2 (fun c8 => ?_) (fun c8 => ?_)
          · have h := h.1 c8
            refine g_iinc X (x := v2) (lv' := [(2, .int (iI (v2 + 1))), (0, .ref a0), (1, .ref a1)]) 2 dX0_allows_55 rfl (by decide) rfl ?_
            refine g_goto X (tgt := 2) dX0_allows_58 (by decide) ?_
            exact g_sub (lv' := [(0, .ref a0), (1, .ref a1), (2, .int (iI (v2 + 1)))]) [1, 2, 0] rfl (h p l e s m args below meth c D cA ad X0 hr hlk)
          · have h := h.2 c8
            refine g_aload_n X 1 dX0_allows_45 rfl ?_
            refine g_iload_n X 2 dX0_allows_46 rfl ?_
            refine g_iconst X dX0_allows_47 ?_
            refine g_isub X dX0_allows_48 ?_
            obtain ⟨q9, h⟩ := h
            refine g_iald X dX0_allows_49 ha1 q9.1 q9.2 ?_
            obtain ⟨q10, h⟩ := h
            refine g_if_eq X (tgt := 55) dX0_allows_50 (by decide) q10 (fun c11 => ?_) (fun c11 => ?_)
            · have h := h.1 c11
              refine g_iinc X (x := v2) (lv' := [(2, .int (iI (v2 + 1))), (0, .ref a0), (1, .ref a1)]) 2 dX0_allows_55 rfl (by decide) rfl ?_
              refine g_goto X (tgt := 2) dX0_allows_58 (by decide) ?_
              exact g_sub (lv' := [(0, .ref a0), (1, .ref a1), (2, .int (iI (v2 + 1)))]) [1, 2, 0] rfl (h p l e s m args below meth c D cA ad X0 hr hlk)
            · have h := h.2 c11
              refine g_iconst X dX0_allows_53 ?_
              exact g_iret X hr hlk dX0_allows_54 rfl (Or.inr ⟨rfl, h⟩)
theorem bX0_becomeLike_0 {a0 : Nat} {a1 : Nat} {σ : ASt} {Q : ASt → Prop} (ha0 : shp a0 = (0, 0, 0)) (ha1 : shp a1 = (0, 0, 0)) (h : Q (cL (cI (sL (sI (sI σ a0 3 (gI σ a1 3)) a0 4 (gI (sI σ a0 3 (gI σ a1 3)) a1 4)) a0 5 (gL (sI (sI σ a0 3 (gI σ a1 3)) a0 4 (gI (sI σ a0 3 (gI σ a1 3)) a1 4)) a1 5)) (a1 + 6) (a0 + 6) 0 0 43) (a1 + 12) (a0 + 12) 0 0 43)) : Wx K_X0_becomeLike (QV Q) 0 [(0, .ref a0), (1, .ref a1)] [] σ := by
  intro p l e s m args below meth c D cA ad X0 hr hlk
  have X : Cx p s m args c (adA ad) D cA ad RX0 cX0_becomeLike 2 := X0
  refine g_aload_n X 0 dX0_becomeLike_0 rfl ?_
  refine g_aload_n X 1 dX0_becomeLike_1 rfl ?_
  refine g_getI X (z := 3) dX0_becomeLike_2 lf_X0_40 ha1 rfl rfl ?_
  refine g_putI X (j := 3) (z := 3) dX0_becomeLike_5 lp_X0_40 ha0 rfl rfl ?_
  refine g_aload_n X 0 dX0_becomeLike_8 rfl ?_
  refine g_aload_n X 1 dX0_becomeLike_9 rfl ?_
  refine g_getI X (z := 4) dX0_becomeLike_10 lf_X0_48 ha1 rfl rfl ?_
  refine g_putI X (j := 4) (z := 4) dX0_becomeLike_13 lp_X0_48 ha0 rfl rfl ?_
  refine g_aload_n X 0 dX0_becomeLike_16 rfl ?_
  refine g_aload_n X 1 dX0_becomeLike_17 rfl ?_
  refine g_getL X (z := 5) dX0_becomeLike_18 lf_X0_51 ha1 rfl rfl ?_
  refine g_putL X (j := 5) (z := 5) dX0_becomeLike_21 lp_X0_51 ha0 rfl rfl ?_
  refine g_aload_n X 1 dX0_becomeLike_24 rfl ?_
  refine g_getF X (f := (a1 + 6)) dX0_becomeLike_25 lf_X0_9 ha1 rfl (fn_0_1 ha1) ?_
  refine g_iconst X dX0_becomeLike_28 ?_
  refine g_aload_n X 0 dX0_becomeLike_29 rfl ?_
  refine g_getF X (f := (a0 + 6)) dX0_becomeLike_30 lf_X0_9 ha0 rfl (fn_0_1 ha0) ?_
  refine g_iconst X dX0_becomeLike_33 ?_
  refine g_aload_n X 0 dX0_becomeLike_34 rfl ?_
  refine g_getF X (f := (a0 + 6)) dX0_becomeLike_35 lf_X0_9 ha0 rfl (fn_0_1 ha0) ?_
  refine g_alen1 X (z := 43) dX0_becomeLike_38 (sf_0_1 ha0) rfl ?_
  refine g_copyI X dX0_becomeLike_39 la_X0_55 (by decide) (Nat.le_of_ble_eq_true rfl) (sf_0_1 ha1) (sf_0_1 ha0) (by decide) (by decide) (by decide) (by decide) (by decide) ?_
  refine g_aload_n X 1 dX0_becomeLike_42 rfl ?_
  refine g_getF X (f := (a1 + 12)) dX0_becomeLike_43 lf_X0_15 ha1 rfl (fn_0_2 ha1) ?_
  refine g_iconst X dX0_becomeLike_46 ?_
  refine g_aload_n X 0 dX0_becomeLike_47 rfl ?_
  refine g_getF X (f := (a0 + 12)) dX0_becomeLike_48 lf_X0_15 ha0 rfl (fn_0_2 ha0) ?_
  refine g_iconst X dX0_becomeLike_51 ?_
  refine g_aload_n X 0 dX0_becomeLike_52 rfl ?_
  refine g_getF X (f := (a0 + 12)) dX0_becomeLike_53 lf_X0_15 ha0 rfl (fn_0_2 ha0) ?_
  refine g_alen2 X (z := 43) dX0_becomeLike_56 (sf_0_2 ha0) rfl ?_
  refine g_copyL X dX0_becomeLike_57 la_X0_55 (by decide) (Nat.le_of_ble_eq_true rfl) (sf_0_2 ha1) (sf_0_2 ha0) (by decide) (by decide) (by decide) (by decide) (by decide) ?_
  exact g_vret X hr hlk dX0_becomeLike_60 ⟨rfl, h⟩
theorem eX0_becomeLike {a0 : Nat} {a1 : Nat} {σ : ASt} {Q : ASt → Prop} (ha0 : shp a0 = (0, 0, 0)) (ha1 : shp a1 = (0, 0, 0)) (h : Q (cL (cI (sL (sI (sI σ a0 3 (gI σ a1 3)) a0 4 (gI (sI σ a0 3 (gI σ a1 3)) a1 4)) a0 5 (gL (sI (sI σ a0 3 (gI σ a1 3)) a0 4 (gI (sI σ a0 3 (gI σ a1 3)) a1 4)) a1 5)) (a1 + 6) (a0 + 6) 0 0 43) (a1 + 12) (a0 + 12) 0 0 43)) : EvV K_X0_becomeLike [.ref a0, .ref a1] σ Q := Ev.of rfl (Nat.le_of_ble_eq_true rfl) rfl (bX0_becomeLike_0 ha0 ha1 h)
theorem bX0_hasPlace_0 {a0 : Nat} {v1 : Int} {σ : ASt} {QT QF : ASt → Prop} (ha0 : shp a0 = (0, 0, 0)) (h32v1 : i32 v1) (h : ((v1 < 0 → QF σ) ∧ (0 ≤ v1 → i32 ((gI σ a0 4)) ∧ (((gI σ a0 4) ≤ v1 → QF σ) ∧ (v1 < (gI σ a0 4) → ((43 ≤ v1 → QF σ) ∧ (v1 < 43 → QT σ))))))) : Wx K_X0_hasPlace (QZ QT QF) 0 [(0, .ref a0), (1, .int (iI v1))] [] σ := by
  intro p l e s m args below meth c D cA ad X0 hr hlk
  have X : Cx p s m args c (adA ad) D cA ad RX0 cX0_hasPlace 2 := X0
  refine g_iload_n X 1 dX0_hasPlace_0 rfl ?_
  refine g_if_lt X (tgt := 22) dX0_hasPlace_1 (by decide) h32v1 (fun c1 => ?_) (fun c1 => ?_)
  · have h := h.1 c1
    refine g_iconst X dX0_hasPlace_22 ?_
    exact g_iret X hr hlk dX0_hasPlace_23 rfl (Or.inr ⟨rfl, h⟩)
  · have h := h.2 c1
    refine g_iload_n X 1 dX0_hasPlace_4 rfl ?_
    refine g_aload_n X 0 dX0_hasPlace_5 rfl ?_
    refine g_getI X (z := 4) dX0_hasPlace_6 lf_X0_48 ha0 rfl rfl ?_
    obtain ⟨q2, h⟩ := h
    refine g_icmp_ge X (tgt := 22) dX0_hasPlace_9 (by decide) h32v1 q2 (fun c3 => ?_) (fun c3 => ?_)
    · have h := h.1 c3
      refine g_iconst X dX0_hasPlace_22 ?_
      exact g_iret X hr hlk dX0_hasPlace_23 rfl (Or.inr ⟨rfl, h⟩)
    · have h := h.2 c3
      refine g_iload_n X 1 dX0_hasPlace_12 rfl ?_
      refine g_bipush X dX0_hasPlace_13 (by decide +kernel) ?_
      refine g_icmp_ge X (tgt := 22) dX0_hasPlace_15 (by decide) h32v1 (by omega) (fun c4 => ?_) (fun c4 => ?_)
      · have h := h.1 c4
        refine g_iconst X dX0_hasPlace_22 ?_
        exact g_iret X hr hlk dX0_hasPlace_23 rfl (Or.inr ⟨rfl, h⟩)
      · have h := h.2 c4
        refine g_iconst X dX0_hasPlace_18 ?_
        refine g_goto X (tgt := 23) dX0_hasPlace_19 (by decide) ?_
        exact g_iret X hr hlk dX0_hasPlace_23 rfl (Or.inl ⟨rfl, h⟩)
theorem eX0_hasPlace {a0 : Nat} {v1 : Int} {σ : ASt} {QT QF : ASt → Prop} (ha0 : shp a0 = (0, 0, 0)) (h32v1 : i32 v1) (h : ((v1 < 0 → QF σ) ∧ (0 ≤ v1 → i32 ((gI σ a0 4)) ∧ (((gI σ a0 4) ≤ v1 → QF σ) ∧ (v1 < (gI σ a0 4) → ((43 ≤ v1 → QF σ) ∧ (v1 < 43 → QT σ))))))) : EvZ K_X0_hasPlace [.ref a0, .int (iI v1)] σ QT QF := Ev.of rfl (Nat.le_of_ble_eq_true rfl) rfl (bX0_hasPlace_0 ha0 h32v1 h)
theorem bX0_isDigit_0 {v0 : Int} {σ : ASt} {QT QF : ASt → Prop}  (h : EvZ K_X7_isWithin [.int (iI v0), .int (iI 0), .int (iI 99)] σ (fun s1 => QT s1) (fun s1 => QF s1)) : Wx K_X0_isDigit (QZ QT QF) 0 [(0, .int (iI v0))] [] σ := by
  intro p l e s m args below meth c D cA ad X0 hr hlk
  have X : Cx p s m args c (adA ad) D cA ad RX0 cX0_isDigit 1 := X0
  refine g_iload_n X 0 dX0_isDigit_0 rfl ?_
  refine g_iconst X dX0_isDigit_1 ?_
  refine g_bipush X dX0_isDigit_2 (by decide +kernel) ?_
  refine g_cNZ X (K := K_X7_isWithin) [.int (iI v0), .int (iI 0), .int (iI 99)] [] dX0_isDigit_4 ln_X0_27 rm_X0_isDigit_X7_isWithin ⟨by decide, by decide⟩ adA_id rfl (Nat.le_of_ble_eq_true rfl) rfl h (fun s1 h => ?_) (fun s1 h => ?_)
  · skip
    exact g_iret X hr hlk dX0_isDigit_7 rfl (Or.inl ⟨rfl, h⟩)
  · skip
    exact g_iret X hr hlk dX0_isDigit_7 rfl (Or.inr ⟨rfl, h⟩)
theorem eX0_isDigit {v0 : Int} {σ : ASt} {QT QF : ASt → Prop}  (h : EvZ K_X7_isWithin [.int (iI v0), .int (iI 0), .int (iI 99)] σ (fun s1 => QT s1) (fun s1 => QF s1)) : EvZ K_X0_isDigit [.int (iI v0)] σ QT QF := Ev.of rfl (Nat.le_of_ble_eq_true rfl) rfl (bX0_isDigit_0  h)
theorem bX0_carried_0 {a0 : Nat} {v1 : Int} {σ : ASt} {Q : Int → ASt → Prop} (ha0 : shp a0 = (0, 0, 0)) (h32v1 : i32 v1) (h : ((v1 ≠ 0 → ((0 : Int) ≤ v1 ∧ v1 < 43) ∧ i32 ((gI σ (a0 + 6) v1)) ∧ Q (gI σ (a0 + 6) v1) σ) ∧ (v1 = 0 → i32 (((gI σ (a0 + 6) 0) + 1)) ∧ Q ((gI σ (a0 + 6) 0) + 1) σ))) : Wx K_X0_carried (QI Q) 0 [(0, .ref a0), (1, .int (iI v1))] [] σ := by
  intro p l e s m args below meth c D cA ad X0 hr hlk
  have X : Cx p s m args c (adA ad) D cA ad RX0 cX0_carried 2 := X0
  refine g_iload_n X 1 dX0_carried_0 rfl ?_
  refine g_if_ne X (tgt := 15) dX0_carried_1 (by decide) h32v1 (fun c1 => ?_) (fun c1 => ?_)
  · have h := h.1 c1
    refine g_aload_n X 0 dX0_carried_15 rfl ?_
    refine g_getF X (f := (a0 + 6)) dX0_carried_16 lf_X0_9 ha0 rfl (fn_0_1 ha0) ?_
    refine g_iload_n X 1 dX0_carried_19 rfl ?_
    obtain ⟨q2, h⟩ := h
    refine g_iald X dX0_carried_20 (sf_0_1 ha0) q2.1 q2.2 ?_
    obtain ⟨q3, h⟩ := h
    exact g_iret X hr hlk dX0_carried_21 rfl ⟨_, rfl, q3, h⟩
  · have h := h.2 c1
    refine g_aload_n X 0 dX0_carried_4 rfl ?_
    refine g_getF X (f := (a0 + 6)) dX0_carried_5 lf_X0_9 ha0 rfl (fn_0_1 ha0) ?_
    refine g_iconst X dX0_carried_8 ?_
    refine g_iald X dX0_carried_9 (sf_0_1 ha0) (by omega) (by omega) ?_
    refine g_iconst X dX0_carried_10 ?_
    refine g_iadd X dX0_carried_11 ?_
    refine g_goto X (tgt := 21) dX0_carried_12 (by decide) ?_
    obtain ⟨q4, h⟩ := h
    exact g_iret X hr hlk dX0_carried_21 rfl ⟨_, rfl, q4, h⟩
theorem eX0_carried {a0 : Nat} {v1 : Int} {σ : ASt} {Q : Int → ASt → Prop} (ha0 : shp a0 = (0, 0, 0)) (h32v1 : i32 v1) (h : ((v1 ≠ 0 → ((0 : Int) ≤ v1 ∧ v1 < 43) ∧ i32 ((gI σ (a0 + 6) v1)) ∧ Q (gI σ (a0 + 6) v1) σ) ∧ (v1 = 0 → i32 (((gI σ (a0 + 6) 0) + 1)) ∧ Q ((gI σ (a0 + 6) 0) + 1) σ))) : EvI K_X0_carried [.ref a0, .int (iI v1)] σ Q := Ev.of rfl (Nat.le_of_ble_eq_true rfl) rfl (bX0_carried_0 ha0 h32v1 h)
theorem bX0_canCarry_0 {a0 : Nat} {a1 : Nat} {v2 : Int} {v3 : Int} {σ : ASt} {QT QF : ASt → Prop} (ha0 : shp a0 = (0, 0, 0)) (ha1 : shp a1 = (1, 0, 43)) (h32v2 : i32 v2) (h : EvZ K_X0_hasPlace [.ref a0, .int (iI v2)] σ (fun s1 => EvZ K_X0_hasPlace [.ref a0, .int (iI (v2 + 1))] s1 (fun s2 => ((0 : Int) ≤ (v2 + 1) ∧ (v2 + 1) < 43) ∧ EvZ K_X0_isDigit [.int (iI ((gI s2 a1 (v2 + 1)) + v3))] s2 (fun s4 => ((0 : Int) ≤ v2 ∧ v2 < 43) ∧ EvI K_X0_carried [.ref a0, .int (iI v2)] s4 (fun x7 s6 => EvZ K_X0_isDigit [.int (iI ((gI s4 a1 v2) - (v3 * x7)))] s6 (fun s9 => ((v2 = 0 → QT s9) ∧ (v2 ≠ 0 → ((0 : Int) ≤ (v2 - 1) ∧ (v2 - 1) < 43) ∧ EvZ K_X0_isDigit [.int (iI ((gI s9 a1 (v2 - 1)) - v3))] s9 (fun s12 => QT s12) (fun s12 => QF s12)))) (fun s9 => QF s9))) (fun s4 => QF s4)) (fun s2 => QF s2)) (fun s1 => QF s1)) : Wx K_X0_canCarry (QZ QT QF) 0 [(0, .ref a0), (1, .ref a1), (2, .int (iI v2)), (3, .int (iI v3))] [] σ := by
  intro p l e s m args below meth c D cA ad X0 hr hlk
  have X : Cx p s m args c (adA ad) D cA ad RX0 cX0_canCarry 4 := X0
  refine g_aload_n X 0 dX0_canCarry_0 rfl ?_
  refine g_iload_n X 2 dX0_canCarry_1 rfl ?_
  refine g_cVZ X (K := K_X0_hasPlace) [.int (iI v2)] [] dX0_canCarry_2 lv_X0_65 rm_X0_canCarry_X0_hasPlace ⟨by decide, by decide⟩ adA_id ha0 rfl rfl (Nat.le_of_ble_eq_true rfl) rfl h (fun s1 h => ?_) (fun s1 h => ?_)
  · skip
    refine g_if_eq X (tgt := 18) dX0_canCarry_5 (by decide) (by omega) (fun hc => absurd hc (by decide)) (fun _ => ?_)
    refine g_aload_n X 0 dX0_canCarry_8 rfl ?_
    refine g_iload_n X 2 dX0_canCarry_9 rfl ?_
    refine g_iconst X dX0_canCarry_10 ?_
    refine g_iadd X dX0_canCarry_11 ?_
    refine g_cVZ X (K := K_X0_hasPlace) [.int (iI (v2 + 1))] [] dX0_canCarry_12 lv_X0_65 rm_X0_canCarry_X0_hasPlace ⟨by decide, by decide⟩ adA_id ha0 rfl rfl (Nat.le_of_ble_eq_true rfl) rfl h (fun s2 h => ?_) (fun s2 h => ?_)
    · skip
      refine g_if_ne X (tgt := 20) dX0_canCarry_15 (by decide) (by omega) (fun _ => ?_) (fun hc => absurd hc (by decide))
      refine g_aload_n X 1 dX0_canCarry_20 rfl ?_
      refine g_iload_n X 2 dX0_canCarry_21 rfl ?_
      refine g_iconst X dX0_canCarry_22 ?_
      refine g_iadd X dX0_canCarry_23 ?_
      obtain ⟨q3, h⟩ := h
      refine g_iald X dX0_canCarry_24 ha1 q3.1 q3.2 ?_
      refine g_iload_n X 3 dX0_canCarry_25 rfl ?_
      refine g_iadd X dX0_canCarry_26 ?_
      refine g_cSZ X (K := K_X0_isDigit) [.int (iI ((gI s2 a1 (v2 + 1)) + v3))] [] dX0_canCarry_27 ls_X0_69 rm_X0_canCarry_X0_isDigit ⟨by decide, by decide⟩ adA_id rfl (Nat.le_of_ble_eq_true rfl) rfl h (fun s4 h => ?_) (fun s4 h => ?_)
      · skip
        refine g_if_eq X (tgt := 71) dX0_canCarry_30 (by decide) (by omega) (fun hc => absurd hc (by decide)) (fun _ => ?_)
        refine g_aload_n X 1 dX0_canCarry_33 rfl ?_
        refine g_iload_n X 2 dX0_canCarry_34 rfl ?_
        obtain ⟨q5, h⟩ := h
        refine g_iald X dX0_canCarry_35 ha1 q5.1 q5.2 ?_
        refine g_iload_n X 3 dX0_canCarry_36 rfl ?_
        refine g_aload_n X 0 dX0_canCarry_37 rfl ?_
        refine g_iload_n X 2 dX0_canCarry_38 rfl ?_
        refine g_cVI X (K := K_X0_carried) [.int (iI v2)] [.int (iI v3), .int (iI (gI s4 a1 v2))] dX0_canCarry_39 lv_X0_72 rm_X0_canCarry_X0_carried ⟨by decide, by decide⟩ adA_id ha0 rfl rfl (Nat.le_of_ble_eq_true rfl) rfl h (fun x7 s6 q8 h => ?_)
        refine g_imul X dX0_canCarry_42 ?_
        refine g_isub X dX0_canCarry_43 ?_
        refine g_cSZ X (K := K_X0_isDigit) [.int (iI ((gI s4 a1 v2) - (v3 * x7)))] [] dX0_canCarry_44 ls_X0_69 rm_X0_canCarry_X0_isDigit ⟨by decide, by decide⟩ adA_id rfl (Nat.le_of_ble_eq_true rfl) rfl h (fun s9 h => ?_) (fun s9 h => ?_)
        · skip
          refine g_if_eq X (tgt := 71) dX0_canCarry_47 (by decide) (by omega) (fun hc => absurd hc (by decide)) (fun _ => ?_)
          refine g_iload_n X 2 dX0_canCarry_50 rfl ?_
          refine g_if_eq X (tgt := 67) dX0_canCarry_51 (by decide) h32v2 (fun c10 => ?_) (fun c10 => ?_)
          · have h := h.1 c10
            refine g_iconst X dX0_canCarry_67 ?_
            refine g_goto X (tgt := 72) dX0_canCarry_68 (by decide) ?_
            exact g_iret X hr hlk dX0_canCarry_72 rfl (Or.inl ⟨rfl, h⟩)
          · have h := h.2 c10
            refine g_aload_n X 1 dX0_canCarry_54 rfl ?_
            refine g_iload_n X 2 dX0_canCarry_55 rfl ?_
            refine g_iconst X dX0_canCarry_56 ?_
            refine g_isub X dX0_canCarry_57 ?_
            obtain ⟨q11, h⟩ := h
            refine g_iald X dX0_canCarry_58 ha1 q11.1 q11.2 ?_
            refine g_iload_n X 3 dX0_canCarry_59 rfl ?_
            refine g_isub X dX0_canCarry_60 ?_
            refine g_cSZ X (K := K_X0_isDigit) [.int (iI ((gI s9 a1 (v2 - 1)) - v3))] [] dX0_canCarry_61 ls_X0_69 rm_X0_canCarry_X0_isDigit ⟨by decide, by decide⟩ adA_id rfl (Nat.le_of_ble_eq_true rfl) rfl h (fun s12 h => ?_) (fun s12 h => ?_)
            · skip
              refine g_if_eq X (tgt := 71) dX0_canCarry_64 (by decide) (by omega) (fun hc => absurd hc (by decide)) (fun _ => ?_)
              refine g_iconst X dX0_canCarry_67 ?_
              refine g_goto X (tgt := 72) dX0_canCarry_68 (by decide) ?_
              exact g_iret X hr hlk dX0_canCarry_72 rfl (Or.inl ⟨rfl, h⟩)
            · skip
              refine g_if_eq X (tgt := 71) dX0_canCarry_64 (by decide) (by omega) (fun _ => ?_) (fun hc => absurd hc (by decide))
              refine g_iconst X dX0_canCarry_71 ?_
              exact g_iret X hr hlk dX0_canCarry_72 rfl (Or.inr ⟨rfl, h⟩)
        · skip
          refine g_if_eq X (tgt := 71) dX0_canCarry_47 (by decide) (by omega) (fun _ => ?_) (fun hc => absurd hc (by decide))
          refine g_iconst X dX0_canCarry_71 ?_
          exact g_iret X hr hlk dX0_canCarry_72 rfl (Or.inr ⟨rfl, h⟩)
      · skip
        refine g_if_eq X (tgt := 71) dX0_canCarry_30 (by decide) (by omega) (fun _ => ?_) (fun hc => absurd hc (by decide))
        refine g_iconst X dX0_canCarry_71 ?_
        exact g_iret X hr hlk dX0_canCarry_72 rfl (Or.inr ⟨rfl, h⟩)
    · skip
      refine g_if_ne X (tgt := 20) dX0_canCarry_15 (by decide) (by omega) (fun hc => absurd hc (by decide)) (fun _ => ?_)
      refine g_iconst X dX0_canCarry_18 ?_
      exact g_iret X hr hlk dX0_canCarry_19 rfl (Or.inr ⟨rfl, h⟩)
  · skip
    refine g_if_eq X (tgt := 18) dX0_canCarry_5 (by decide) (by omega) (fun _ => ?_) (fun hc => absurd hc (by decide))
    refine g_iconst X dX0_canCarry_18 ?_
    exact g_iret X hr hlk dX0_canCarry_19 rfl (Or.inr ⟨rfl, h⟩)
theorem eX0_canCarry {a0 : Nat} {a1 : Nat} {v2 : Int} {v3 : Int} {σ : ASt} {QT QF : ASt → Prop} (ha0 : shp a0 = (0, 0, 0)) (ha1 : shp a1 = (1, 0, 43)) (h32v2 : i32 v2) (h : EvZ K_X0_hasPlace [.ref a0, .int (iI v2)] σ (fun s1 => EvZ K_X0_hasPlace [.ref a0, .int (iI (v2 + 1))] s1 (fun s2 => ((0 : Int) ≤ (v2 + 1) ∧ (v2 + 1) < 43) ∧ EvZ K_X0_isDigit [.int (iI ((gI s2 a1 (v2 + 1)) + v3))] s2 (fun s4 => ((0 : Int) ≤ v2 ∧ v2 < 43) ∧ EvI K_X0_carried [.ref a0, .int (iI v2)] s4 (fun x7 s6 => EvZ K_X0_isDigit [.int (iI ((gI s4 a1 v2) - (v3 * x7)))] s6 (fun s9 => ((v2 = 0 → QT s9) ∧ (v2 ≠ 0 → ((0 : Int) ≤ (v2 - 1) ∧ (v2 - 1) < 43) ∧ EvZ K_X0_isDigit [.int (iI ((gI s9 a1 (v2 - 1)) - v3))] s9 (fun s12 => QT s12) (fun s12 => QF s12)))) (fun s9 => QF s9))) (fun s4 => QF s4)) (fun s2 => QF s2)) (fun s1 => QF s1)) : EvZ K_X0_canCarry [.ref a0, .ref a1, .int (iI v2), .int (iI v3)] σ QT QF := Ev.of rfl (Nat.le_of_ble_eq_true rfl) rfl (bX0_canCarry_0 ha0 ha1 h32v2 h)
theorem bX0_carryOnce_0 {a0 : Nat} {a1 : Nat} {v2 : Int} {v3 : Int} {σ : ASt} {Q : ASt → Prop} (ha0 : shp a0 = (0, 0, 0)) (ha1 : shp a1 = (1, 0, 43)) (h32v2 : i32 v2) (h : EvZ K_X0_canCarry [.ref a0, .ref a1, .int (iI v2), .int (iI v3)] σ (fun s1 => ((0 : Int) ≤ (v2 + 1) ∧ (v2 + 1) < 43) ∧ ((0 : Int) ≤ v2 ∧ v2 < 43) ∧ EvI K_X0_carried [.ref a0, .int (iI v2)] (sI s1 a1 (v2 + 1) ((gI s1 a1 (v2 + 1)) + v3)) (fun x5 s4 => ((v2 ≤ 0 → Q (sI s4 a1 v2 ((gI (sI s1 a1 (v2 + 1) ((gI s1 a1 (v2 + 1)) + v3)) a1 v2) - (v3 * x5)))) ∧ (0 < v2 → ((0 : Int) ≤ (v2 - 1) ∧ (v2 - 1) < 43) ∧ Q (sI (sI s4 a1 v2 ((gI (sI s1 a1 (v2 + 1) ((gI s1 a1 (v2 + 1)) + v3)) a1 v2) - (v3 * x5))) a1 (v2 - 1) ((gI (sI s4 a1 v2 ((gI (sI s1 a1 (v2 + 1) ((gI s1 a1 (v2 + 1)) + v3)) a1 v2) - (v3 * x5))) a1 (v2 - 1)) - v3)))))) (fun s1 => Q s1)) : Wx K_X0_carryOnce (QV Q) 0 [(0, .ref a0), (1, .ref a1), (2, .int (iI v2)), (3, .int (iI v3))] [] σ := by
  intro p l e s m args below meth c D cA ad X0 hr hlk
  have X : Cx p s m args c (adA ad) D cA ad RX0 cX0_carryOnce 4 := X0
  refine g_aload_n X 0 dX0_carryOnce_0 rfl ?_
  refine g_aload_n X 1 dX0_carryOnce_1 rfl ?_
  refine g_iload_n X 2 dX0_carryOnce_2 rfl ?_
  refine g_iload_n X 3 dX0_carryOnce_3 rfl ?_
  refine g_cVZ X (K := K_X0_canCarry) [.ref a1, .int (iI v2), .int (iI v3)] [] dX0_carryOnce_4 lv_X0_76 rm_X0_carryOnce_X0_canCarry ⟨by decide, by decide⟩ adA_id ha0 rfl rfl (Nat.le_of_ble_eq_true rfl) rfl h (fun s1 h => ?_) (fun s1 h => ?_)
  · skip
    refine g_if_ne X (tgt := 11) dX0_carryOnce_7 (by decide) (by omega) (fun _ => ?_) (fun hc => absurd hc (by decide))
    refine g_aload_n X 1 dX0_carryOnce_11 rfl ?_
    refine g_iload_n X 2 dX0_carryOnce_12 rfl ?_
    refine g_iconst X dX0_carryOnce_13 ?_
    refine g_iadd X dX0_carryOnce_14 ?_
    refine g_dup2 X dX0_carryOnce_15 rfl rfl ?_
    obtain ⟨q2, h⟩ := h
    refine g_iald X dX0_carryOnce_16 ha1 q2.1 q2.2 ?_
    refine g_iload_n X 3 dX0_carryOnce_17 rfl ?_
    refine g_iadd X dX0_carryOnce_18 ?_
    refine g_iast X dX0_carryOnce_19 ha1 q2.1 q2.2 ?_
    refine g_aload_n X 1 dX0_carryOnce_20 rfl ?_
    refine g_iload_n X 2 dX0_carryOnce_21 rfl ?_
    refine g_dup2 X dX0_carryOnce_22 rfl rfl ?_
    obtain ⟨q3, h⟩ := h
    refine g_iald X dX0_carryOnce_23 ha1 q3.1 q3.2 ?_
    refine g_iload_n X 3 dX0_carryOnce_24 rfl ?_
    refine g_aload_n X 0 dX0_carryOnce_25 rfl ?_
    refine g_iload_n X 2 dX0_carryOnce_26 rfl ?_
    refine g_cVI X (K := K_X0_carried) [.int (iI v2)] [.int (iI v3), .int (iI (gI (sI s1 a1 (v2 + 1) ((gI s1 a1 (v2 + 1)) + v3)) a1 v2)), .int (iI v2), .ref a1] dX0_carryOnce_27 lv_X0_72 rm_X0_carryOnce_X0_carried ⟨by decide, by decide⟩ adA_id ha0 rfl rfl (Nat.le_of_ble_eq_true rfl) rfl h (fun x5 s4 q6 h => ?_)
    refine g_imul X dX0_carryOnce_30 ?_
    refine g_isub X dX0_carryOnce_31 ?_
    refine g_iast X dX0_carryOnce_32 ha1 q3.1 q3.2 ?_
    refine g_iload_n X 2 dX0_carryOnce_33 rfl ?_
    refine g_if_le X (tgt := 46) dX0_carryOnce_34 (by decide) h32v2 (fun c7 => ?_) (fun c7 => ?_)
    · have h := h.1 c7
      exact g_vret X hr hlk dX0_carryOnce_46 ⟨rfl, h⟩
    · have h := h.2 c7
      refine g_aload_n X 1 dX0_carryOnce_37 rfl ?_
      refine g_iload_n X 2 dX0_carryOnce_38 rfl ?_
      refine g_iconst X dX0_carryOnce_39 ?_
      refine g_isub X dX0_carryOnce_40 ?_
      refine g_dup2 X dX0_carryOnce_41 rfl rfl ?_
      obtain ⟨q8, h⟩ := h
      refine g_iald X dX0_carryOnce_42 ha1 q8.1 q8.2 ?_
      refine g_iload_n X 3 dX0_carryOnce_43 rfl ?_
      refine g_isub X dX0_carryOnce_44 ?_
      refine g_iast X dX0_carryOnce_45 ha1 q8.1 q8.2 ?_
      exact g_vret X hr hlk dX0_carryOnce_46 ⟨rfl, h⟩
  · skip
    refine g_if_ne X (tgt := 11) dX0_carryOnce_7 (by decide) (by omega) (fun hc => absurd hc (by decide)) (fun _ => ?_)
    exact g_vret X hr hlk dX0_carryOnce_10 ⟨rfl, h⟩
theorem eX0_carryOnce {a0 : Nat} {a1 : Nat} {v2 : Int} {v3 : Int} {σ : ASt} {Q : ASt → Prop} (ha0 : shp a0 = (0, 0, 0)) (ha1 : shp a1 = (1, 0, 43)) (h32v2 : i32 v2) (h : EvZ K_X0_canCarry [.ref a0, .ref a1, .int (iI v2), .int (iI v3)] σ (fun s1 => ((0 : Int) ≤ (v2 + 1) ∧ (v2 + 1) < 43) ∧ ((0 : Int) ≤ v2 ∧ v2 < 43) ∧ EvI K_X0_carried [.ref a0, .int (iI v2)] (sI s1 a1 (v2 + 1) ((gI s1 a1 (v2 + 1)) + v3)) (fun x5 s4 => ((v2 ≤ 0 → Q (sI s4 a1 v2 ((gI (sI s1 a1 (v2 + 1) ((gI s1 a1 (v2 + 1)) + v3)) a1 v2) - (v3 * x5)))) ∧ (0 < v2 → ((0 : Int) ≤ (v2 - 1) ∧ (v2 - 1) < 43) ∧ Q (sI (sI s4 a1 v2 ((gI (sI s1 a1 (v2 + 1) ((gI s1 a1 (v2 + 1)) + v3)) a1 v2) - (v3 * x5))) a1 (v2 - 1) ((gI (sI s4 a1 v2 ((gI (sI s1 a1 (v2 + 1) ((gI s1 a1 (v2 + 1)) + v3)) a1 v2) - (v3 * x5))) a1 (v2 - 1)) - v3)))))) (fun s1 => Q s1)) : EvV K_X0_carryOnce [.ref a0, .ref a1, .int (iI v2), .int (iI v3)] σ Q := Ev.of rfl (Nat.le_of_ble_eq_true rfl) rfl (bX0_carryOnce_0 ha0 ha1 h32v2 h)
theorem bX0_greedyInto_0 {a0 : Nat} {a1 : Nat} {v2 : Int} {σ : ASt} {Q : ASt → Prop} (ha0 : shp a0 = (0, 0, 0)) (ha1 : shp a1 = (1, 0, 43)) (h : Wx K_X0_greedyInto (QV Q) 9 [(0, .ref a0), (1, .ref a1), (4, .long (lI v2)), (6, .int (iI (43 - 1)))] [] σ) : Wx K_X0_greedyInto (QV Q) 0 [(0, .ref a0), (1, .ref a1), (2, .long (lI v2))] [] σ := by
  intro p l e s m args below meth c D cA ad X0 hr hlk
  have X : Cx p s m args c (adA ad) D cA ad RX0 cX0_greedyInto 11 := X0
  refine g_lload_n X 2 dX0_greedyInto_0 rfl ?_
  refine g_lstore X (lv' := [(4, .long (lI v2)), (0, .ref a0), (1, .ref a1), (2, .long (lI v2))]) dX0_greedyInto_1 (by decide) rfl ?_
  refine g_aload_n X 2 dX0_greedyInto_3 rfl ?_
  refine g_alen1 X (z := 43) dX0_greedyInto_4 ha1 rfl ?_
  refine g_iconst X dX0_greedyInto_5 ?_
  refine g_isub X dX0_greedyInto_6 ?_
  refine g_istore X (lv' := [(6, .int (iI (43 - 1))), (4, .long (lI v2)), (0, .ref a0), (1, .ref a1), (2, .long (lI v2))]) dX0_greedyInto_7 (by decide) rfl ?_
  exact g_sub (lv' := [(0, .ref a0), (1, .ref a1), (4, .long (lI v2)), (6, .int (iI (43 - 1)))]) [2, 3, 1, 0] rfl (h p l e s m args below meth c D cA ad X0 hr hlk)
theorem eX0_greedyInto {a0 : Nat} {a1 : Nat} {v2 : Int} {σ : ASt} {Q : ASt → Prop} (ha0 : shp a0 = (0, 0, 0)) (ha1 : shp a1 = (1, 0, 43)) (h : Wx K_X0_greedyInto (QV Q) 9 [(0, .ref a0), (1, .ref a1), (4, .long (lI v2)), (6, .int (iI (43 - 1)))] [] σ) : EvV K_X0_greedyInto [.ref a0, .ref a1, .long (lI v2)] σ Q := Ev.of rfl (Nat.le_of_ble_eq_true rfl) rfl (bX0_greedyInto_0 ha0 ha1 h)
theorem bX0_greedyInto_9 {a0 : Nat} {a1 : Nat} {v4 : Int} {v6 : Int} {σ : ASt} {Q : ASt → Prop} (ha0 : shp a0 = (0, 0, 0)) (ha1 : shp a1 = (1, 0, 43)) (h32v6 : i32 v6) (h64v4 : i64 v4) (h : ((v6 < 0 → Q σ) ∧ (0 ≤ v6 → EvZ K_X0_hasPlace [.ref a0, .int (iI v6)] σ (fun s2 => ((0 : Int) ≤ v6 ∧ v6 < 43) ∧ i64 ((gL s2 (a0 + 12) v6)) ∧ (((gL s2 (a0 + 12) v6) ≤ 0 → Wx K_X0_greedyInto (QV Q) 9 [(0, .ref a0), (1, .ref a1), (4, .long (lI (v4 - (0 * (gL s2 (a0 + 12) v6))))), (6, .int (iI (v6 + (-1))))] [] (sI s2 a1 v6 0)) ∧ (0 < (gL s2 (a0 + 12) v6) → (gL s2 (a0 + 12) v6) ≠ 0 ∧ Wx K_X0_greedyInto (QV Q) 9 [(0, .ref a0), (1, .ref a1), (4, .long (lI (v4 - ((Int.tdiv v4 (gL s2 (a0 + 12) v6)) * (gL s2 (a0 + 12) v6))))), (6, .int (iI (v6 + (-1))))] [] (sI s2 a1 v6 (Int.tdiv v4 (gL s2 (a0 + 12) v6)))))) (fun s2 => ((0 : Int) ≤ v6 ∧ v6 < 43) ∧ Wx K_X0_greedyInto (QV Q) 9 [(0, .ref a0), (1, .ref a1), (4, .long (lI (v4 - (0 * 0)))), (6, .int (iI (v6 + (-1))))] [] (sI s2 a1 v6 0))))) : Wx K_X0_greedyInto (QV Q) 9 [(0, .ref a0), (1, .ref a1), (4, .long (lI v4)), (6, .int (iI v6))] [] σ := by
  intro p l e s m args below meth c D cA ad X0 hr hlk
  have X : Cx p s m args c (adA ad) D cA ad RX0 cX0_greedyInto 11 := X0
  refine g_iload X 3 dX0_greedyInto_9 rfl ?_
  refine g_if_lt X (tgt := 77) dX0_greedyInto_11 (by decide) h32v6 (fun c1 => ?_) (fun c1 => ?_)
  · have h := h.1 c1
    exact g_vret X hr hlk dX0_greedyInto_77 ⟨rfl, h⟩
  · have h := h.2 c1
    refine g_aload_n X 0 dX0_greedyInto_14 rfl ?_
    refine g_iload X 3 dX0_greedyInto_15 rfl ?_
    refine g_cVZ X (K := K_X0_hasPlace) [.int (iI v6)] [] dX0_greedyInto_17 lv_X0_65 rm_X0_greedyInto_X0_hasPlace ⟨by decide, by decide⟩ adA_id ha0 rfl rfl (Nat.le_of_ble_eq_true rfl) rfl h (fun s2 h => ?_) (fun s2 h => ?_)
    · skip
      refine g_if_eq X (tgt := 33) dX0_greedyInto_20 (by decide) (by omega) (fun hc => absurd hc (by decide)) (fun _ => ?_)
      refine g_aload_n X 0 dX0_greedyInto_23 rfl ?_
      refine g_getF X (f := (a0 + 12)) dX0_greedyInto_24 lf_X0_15 ha0 rfl (fn_0_2 ha0) ?_
      refine g_iload X 3 dX0_greedyInto_27 rfl ?_
      obtain ⟨q3, h⟩ := h
      refine g_lald X dX0_greedyInto_29 (sf_0_2 ha0) q3.1 q3.2 ?_
      refine g_goto X (tgt := 34) dX0_greedyInto_30 (by decide) ?_
      refine g_lstore X (lv' := [(7, .long (lI (gL s2 (a0 + 12) v6))), (0, .ref a0), (1, .ref a1), (4, .long (lI v4)), (6, .int (iI v6))]) dX0_greedyInto_34 (by decide) rfl ?_
      refine g_lload X 0 dX0_greedyInto_36 rfl ?_
      refine g_lconst X (z := 0) dX0_greedyInto_38 (by decide +kernel) ?_
      obtain ⟨q4, h⟩ := h
      refine g_lc_le X (tgt := 51) dX0_greedyInto_39 dX0_greedyInto_40 (by decide) q4 (by omega) (fun c5 => ?_) (fun c5 => ?_)
      · have h := h.1 c5
        refine g_lconst X (z := 0) dX0_greedyInto_51 (by decide +kernel) ?_
        refine g_lstore X (lv' := [(9, .long (lI 0)), (7, .long (lI (gL s2 (a0 + 12) v6))), (0, .ref a0), (1, .ref a1), (4, .long (lI v4)), (6, .int (iI v6))]) dX0_greedyInto_52 (by decide) rfl ?_
        refine g_aload_n X 3 dX0_greedyInto_54 rfl ?_
        refine g_iload X 5 dX0_greedyInto_55 rfl ?_
        refine g_lload X 0 dX0_greedyInto_57 rfl ?_
        refine g_l2i X dX0_greedyInto_59 ?_
        refine g_iast X dX0_greedyInto_60 ha1 q3.1 q3.2 ?_
        refine g_lload X 4 dX0_greedyInto_61 rfl ?_
        refine g_lload X 0 dX0_greedyInto_63 rfl ?_
        refine g_lload X 1 dX0_greedyInto_65 rfl ?_
        refine g_lmul X dX0_greedyInto_67 ?_
        refine g_lsub X dX0_greedyInto_68 ?_
        refine g_lstore X (lv' := [(4, .long (lI (v4 - (0 * (gL s2 (a0 + 12) v6))))), (9, .long (lI 0)), (7, .long (lI (gL s2 (a0 + 12) v6))), (0, .ref a0), (1, .ref a1), (6, .int (iI v6))]) dX0_greedyInto_69 (by decide) rfl ?_
        refine g_iinc X (x := v6) (lv' := [(6, .int (iI (v6 + (-1)))), (4, .long (lI (v4 - (0 * (gL s2 (a0 + 12) v6))))), (9, .long (lI 0)), (7, .long (lI (gL s2 (a0 + 12) v6))), (0, .ref a0), (1, .ref a1)]) 5 dX0_greedyInto_71 rfl (by decide) rfl ?_
        refine g_goto X (tgt := 9) dX0_greedyInto_74 (by decide) ?_
        exact g_sub (lv' := [(0, .ref a0), (1, .ref a1), (4, .long (lI (v4 - (0 * (gL s2 (a0 + 12) v6))))), (6, .int (iI (v6 + (-1))))]) [4, 5, 1, 0] rfl (h p l e s m args below meth c D cA ad X0 hr hlk)
      · have h := h.2 c5
        refine g_lload X 3 dX0_greedyInto_43 rfl ?_
        refine g_lload X 0 dX0_greedyInto_45 rfl ?_
        obtain ⟨q6, h⟩ := h
        refine g_ldiv X dX0_greedyInto_47 h64v4 q4 q6 ?_
        refine g_goto X (tgt := 52) dX0_greedyInto_48 (by decide) ?_
        refine g_lstore X (lv' := [(9, .long (lI (Int.tdiv v4 (gL s2 (a0 + 12) v6)))), (7, .long (lI (gL s2 (a0 + 12) v6))), (0, .ref a0), (1, .ref a1), (4, .long (lI v4)), (6, .int (iI v6))]) dX0_greedyInto_52 (by decide) rfl ?_
        refine g_aload_n X 3 dX0_greedyInto_54 rfl ?_
        refine g_iload X 5 dX0_greedyInto_55 rfl ?_
        refine g_lload X 0 dX0_greedyInto_57 rfl ?_
        refine g_l2i X dX0_greedyInto_59 ?_
        refine g_iast X dX0_greedyInto_60 ha1 q3.1 q3.2 ?_
        refine g_lload X 4 dX0_greedyInto_61 rfl ?_
        refine g_lload X 0 dX0_greedyInto_63 rfl ?_
        refine g_lload X 1 dX0_greedyInto_65 rfl ?_
        refine g_lmul X dX0_greedyInto_67 ?_
        refine g_lsub X dX0_greedyInto_68 ?_
        refine g_lstore X (lv' := [(4, .long (lI (v4 - ((Int.tdiv v4 (gL s2 (a0 + 12) v6)) * (gL s2 (a0 + 12) v6))))), (9, .long (lI (Int.tdiv v4 (gL s2 (a0 + 12) v6)))), (7, .long (lI (gL s2 (a0 + 12) v6))), (0, .ref a0), (1, .ref a1), (6, .int (iI v6))]) dX0_greedyInto_69 (by decide) rfl ?_
        refine g_iinc X (x := v6) (lv' := [(6, .int (iI (v6 + (-1)))), (4, .long (lI (v4 - ((Int.tdiv v4 (gL s2 (a0 + 12) v6)) * (gL s2 (a0 + 12) v6))))), (9, .long (lI (Int.tdiv v4 (gL s2 (a0 + 12) v6)))), (7, .long (lI (gL s2 (a0 + 12) v6))), (0, .ref a0), (1, .ref a1)]) 5 dX0_greedyInto_71 rfl (by decide) rfl ?_
        refine g_goto X (tgt := 9) dX0_greedyInto_74 (by decide) ?_
        exact g_sub (lv' := [(0, .ref a0), (1, .ref a1), (4, .long (lI (v4 - ((Int.tdiv v4 (gL s2 (a0 + 12) v6)) * (gL s2 (a0 + 12) v6))))), (6, .int (iI (v6 + (-1))))]) [4, 5, 1, 0] rfl (h p l e s m args below meth c D cA ad X0 hr hlk)
    · skip
      refine g_if_eq X (tgt := 33) dX0_greedyInto_20 (by decide) (by omega) (fun _ => ?_) (fun hc => absurd hc (by decide))
      refine g_lconst X (z := 0) dX0_greedyInto_33 (by decide +kernel) ?_
      refine g_lstore X (lv' := [(7, .long (lI 0)), (0, .ref a0), (1, .ref a1), (4, .long (lI v4)), (6, .int (iI v6))]) dX0_greedyInto_34 (by decide) rfl ?_
      refine g_lload X 0 dX0_greedyInto_36 rfl ?_
      refine g_lconst X (z := 0) dX0_greedyInto_38 (by decide +kernel) ?_
      refine g_lc_le X (tgt := 51) dX0_greedyInto_39 dX0_greedyInto_40 (by decide) (by omega) (by omega) (fun _ => ?_) (fun hc => absurd hc (by decide))
      refine g_lconst X (z := 0) dX0_greedyInto_51 (by decide +kernel) ?_
      refine g_lstore X (lv' := [(9, .long (lI 0)), (7, .long (lI 0)), (0, .ref a0), (1, .ref a1), (4, .long (lI v4)), (6, .int (iI v6))]) dX0_greedyInto_52 (by decide) rfl ?_
      refine g_aload_n X 3 dX0_greedyInto_54 rfl ?_
      refine g_iload X 5 dX0_greedyInto_55 rfl ?_
      refine g_lload X 0 dX0_greedyInto_57 rfl ?_
      refine g_l2i X dX0_greedyInto_59 ?_
      obtain ⟨q7, h⟩ := h
      refine g_iast X dX0_greedyInto_60 ha1 q7.1 q7.2 ?_
      refine g_lload X 4 dX0_greedyInto_61 rfl ?_
      refine g_lload X 0 dX0_greedyInto_63 rfl ?_
      refine g_lload X 1 dX0_greedyInto_65 rfl ?_
      refine g_lmul X dX0_greedyInto_67 ?_
      refine g_lsub X dX0_greedyInto_68 ?_
      refine g_lstore X (lv' := [(4, .long (lI (v4 - (0 * 0)))), (9, .long (lI 0)), (7, .long (lI 0)), (0, .ref a0), (1, .ref a1), (6, .int (iI v6))]) dX0_greedyInto_69 (by decide) rfl ?_
      refine g_iinc X (x := v6) (lv' := [(6, .int (iI (v6 + (-1)))), (4, .long (lI (v4 - (0 * 0)))), (9, .long (lI 0)), (7, .long (lI 0)), (0, .ref a0), (1, .ref a1)]) 5 dX0_greedyInto_71 rfl (by decide) rfl ?_
      refine g_goto X (tgt := 9) dX0_greedyInto_74 (by decide) ?_
      exact g_sub (lv' := [(0, .ref a0), (1, .ref a1), (4, .long (lI (v4 - (0 * 0)))), (6, .int (iI (v6 + (-1))))]) [4, 5, 1, 0] rfl (h p l e s m args below meth c D cA ad X0 hr hlk)
theorem bX0_highestCarry_0 {a0 : Nat} {a1 : Nat} {v2 : Int} {σ : ASt} {Q : Int → ASt → Prop} (ha0 : shp a0 = (0, 0, 0)) (ha1 : shp a1 = (1, 0, 43)) (h : Wx K_X0_highestCarry (QI Q) 2 [(0, .ref a0), (1, .ref a1), (3, .int (iI v2))] [] σ) : Wx K_X0_highestCarry (QI Q) 0 [(0, .ref a0), (1, .ref a1), (2, .int (iI v2))] [] σ := by
  intro p l e s m args below meth c D cA ad X0 hr hlk
  have X : Cx p s m args c (adA ad) D cA ad RX0 cX0_highestCarry 4 := X0
  refine g_iload_n X 2 dX0_highestCarry_0 rfl ?_
  refine g_istore_n X (lv' := [(3, .int (iI v2)), (0, .ref a0), (1, .ref a1), (2, .int (iI v2))]) dX0_highestCarry_1 (by decide) rfl ?_
  exact g_sub (lv' := [(0, .ref a0), (1, .ref a1), (3, .int (iI v2))]) [1, 2, 0] rfl (h p l e s m args below meth c D cA ad X0 hr hlk)
theorem eX0_highestCarry {a0 : Nat} {a1 : Nat} {v2 : Int} {σ : ASt} {Q : Int → ASt → Prop} (ha0 : shp a0 = (0, 0, 0)) (ha1 : shp a1 = (1, 0, 43)) (h : Wx K_X0_highestCarry (QI Q) 2 [(0, .ref a0), (1, .ref a1), (3, .int (iI v2))] [] σ) : EvI K_X0_highestCarry [.ref a0, .ref a1, .int (iI v2)] σ Q := Ev.of rfl (Nat.le_of_ble_eq_true rfl) rfl (bX0_highestCarry_0 ha0 ha1 h)
theorem bX0_highestCarry_2 {a0 : Nat} {a1 : Nat} {v3 : Int} {σ : ASt} {Q : Int → ASt → Prop} (ha0 : shp a0 = (0, 0, 0)) (ha1 : shp a1 = (1, 0, 43)) (h32v3 : i32 v3) (h : ((v3 < 0 → Q (-1) σ) ∧ (0 ≤ v3 → EvZ K_X0_canCarry [.ref a0, .ref a1, .int (iI v3), .int (iI 1)] σ (fun s2 => Q v3 s2) (fun s2 => Wx K_X0_highestCarry (QI Q) 2 [(0, .ref a0), (1, .ref a1), (3, .int (iI (v3 + (-1))))] [] s2)))) : Wx K_X0_highestCarry (QI Q) 2 [(0, .ref a0), (1, .ref a1), (3, .int (iI v3))] [] σ := by
  intro p l e s m args below meth c D cA ad X0 hr hlk
  have X : Cx p s m args c (adA ad) D cA ad RX0 cX0_highestCarry 4 := X0
  refine g_iload_n X 2 dX0_highestCarry_2 rfl ?_
  refine g_if_lt X (tgt := 24) dX0_highestCarry_3 (by decide) h32v3 (fun c1 => ?_) (fun c1 => ?_)
  · have h := h.1 c1
    refine g_iconst X dX0_highestCarry_24 ?_
    exact g_iret X hr hlk dX0_highestCarry_25 rfl ⟨_, rfl, (by omega), h⟩
  · have h := h.2 c1
    refine g_aload_n X 0 dX0_highestCarry_6 rfl ?_
    refine g_aload_n X 1 dX0_highestCarry_7 rfl ?_
    refine g_iload_n X 2 dX0_highestCarry_8 rfl ?_
    refine g_iconst X dX0_highestCarry_9 ?_
    refine g_cVZ X (K := K_X0_canCarry) [.ref a1, .int (iI v3), .int (iI 1)] [] dX0_highestCarry_10 lv_X0_76 rm_X0_highestCarry_X0_canCarry ⟨by decide, by decide⟩ adA_id ha0 rfl rfl (Nat.le_of_ble_eq_true rfl) rfl h (fun s2 h => ?_) (fun s2 h => ?_)
    · skip
      refine g_if_eq X (tgt := 18) dX0_highestCarry_13 (by decide) (by omega) (fun hc => absurd hc (by decide)) (fun _ => ?_)
      refine g_iload_n X 2 dX0_highestCarry_16 rfl ?_
      exact g_iret X hr hlk dX0_highestCarry_17 rfl ⟨_, rfl, h32v3, h⟩
    · skip
      refine g_if_eq X (tgt := 18) dX0_highestCarry_13 (by decide) (by omega) (fun _ => ?_) (fun hc => absurd hc (by decide))
      refine g_iinc X (x := v3) (lv' := [(3, .int (iI (v3 + (-1)))), (0, .ref a0), (1, .ref a1)]) 2 dX0_highestCarry_18 rfl (by decide) rfl ?_
      refine g_goto X (tgt := 2) dX0_highestCarry_21 (by decide) ?_
      exact g_sub (lv' := [(0, .ref a0), (1, .ref a1), (3, .int (iI (v3 + (-1))))]) [1, 2, 0] rfl (h p l e s m args below meth c D cA ad X0 hr hlk)
theorem bX0_isRowOfSteps_0 {v0 : Int} {v1 : Int} {σ : ASt} {QT QF : ASt → Prop} (h32v1 : i32 v1) (h : EvZ K_X7_isWithin [.int (iI v0), .int (iI 1), .int (iI 8)] σ (fun s1 => ((0 ≤ v1 → Wx K_X0_isRowOfSteps (QZ QT QF) 20 [(0, .int (iI v0)), (2, .int (iI v1)), (3, .int (iI 0))] [] s1) ∧ (v1 < 0 → QF s1))) (fun s1 => QF s1)) : Wx K_X0_isRowOfSteps (QZ QT QF) 0 [(0, .int (iI v0)), (1, .int (iI v1))] [] σ := by
  intro p l e s m args below meth c D cA ad X0 hr hlk
  have X : Cx p s m args c (adA ad) D cA ad RX0 cX0_isRowOfSteps 4 := X0
  refine g_iload_n X 0 dX0_isRowOfSteps_0 rfl ?_
  refine g_iconst X dX0_isRowOfSteps_1 ?_
  refine g_bipush X dX0_isRowOfSteps_2 (by decide +kernel) ?_
  refine g_cNZ X (K := K_X7_isWithin) [.int (iI v0), .int (iI 1), .int (iI 8)] [] dX0_isRowOfSteps_4 ln_X0_27 rm_X0_isRowOfSteps_X7_isWithin ⟨by decide, by decide⟩ adA_id rfl (Nat.le_of_ble_eq_true rfl) rfl h (fun s1 h => ?_) (fun s1 h => ?_)
  · skip
    refine g_if_eq X (tgt := 14) dX0_isRowOfSteps_7 (by decide) (by omega) (fun hc => absurd hc (by decide)) (fun _ => ?_)
    refine g_iload_n X 1 dX0_isRowOfSteps_10 rfl ?_
    refine g_if_ge X (tgt := 16) dX0_isRowOfSteps_11 (by decide) h32v1 (fun c2 => ?_) (fun c2 => ?_)
    · have h := h.1 c2
      refine g_iload_n X 1 dX0_isRowOfSteps_16 rfl ?_
      refine g_istore_n X (lv' := [(2, .int (iI v1)), (0, .int (iI v0)), (1, .int (iI v1))]) dX0_isRowOfSteps_17 (by decide) rfl ?_
      refine g_iconst X dX0_isRowOfSteps_18 ?_
      refine g_istore_n X (lv' := [(3, .int (iI 0)), (2, .int (iI v1)), (0, .int (iI v0)), (1, .int (iI v1))]) dX0_isRowOfSteps_19 (by decide) rfl ?_
      exact g_sub (lv' := [(0, .int (iI v0)), (2, .int (iI v1)), (3, .int (iI 0))]) [2, 1, 0] rfl (h p l e s m args below meth c D cA ad X0 hr hlk)
    · have h := h.2 c2
      refine g_iconst X dX0_isRowOfSteps_14 ?_
      exact g_iret X hr hlk dX0_isRowOfSteps_15 rfl (Or.inr ⟨rfl, h⟩)
  · skip
    refine g_if_eq X (tgt := 14) dX0_isRowOfSteps_7 (by decide) (by omega) (fun _ => ?_) (fun hc => absurd hc (by decide))
    refine g_iconst X dX0_isRowOfSteps_14 ?_
    exact g_iret X hr hlk dX0_isRowOfSteps_15 rfl (Or.inr ⟨rfl, h⟩)
theorem eX0_isRowOfSteps {v0 : Int} {v1 : Int} {σ : ASt} {QT QF : ASt → Prop} (h32v1 : i32 v1) (h : EvZ K_X7_isWithin [.int (iI v0), .int (iI 1), .int (iI 8)] σ (fun s1 => ((0 ≤ v1 → Wx K_X0_isRowOfSteps (QZ QT QF) 20 [(0, .int (iI v0)), (2, .int (iI v1)), (3, .int (iI 0))] [] s1) ∧ (v1 < 0 → QF s1))) (fun s1 => QF s1)) : EvZ K_X0_isRowOfSteps [.int (iI v0), .int (iI v1)] σ QT QF := Ev.of rfl (Nat.le_of_ble_eq_true rfl) rfl (bX0_isRowOfSteps_0 h32v1 h)
theorem bX0_isRowOfSteps_20 {v0 : Int} {v2 : Int} {v3 : Int} {σ : ASt} {QT QF : ASt → Prop} (h32v0 : i32 v0) (h32v2 : i32 v2) (h32v3 : i32 v3) (h : ((v0 ≤ v3 → ((v2 ≠ 0 → QF σ) ∧ (v2 = 0 → QT σ))) ∧ (v3 < v0 → i32 ((Int.tmod v2 10)) ∧ (((Int.tmod v2 10) ≠ 0 → Wx K_X0_isRowOfSteps (QZ QT QF) 20 [(0, .int (iI v0)), (2, .int (iI (Int.tdiv v2 10))), (3, .int (iI (v3 + 1)))] [] σ) ∧ ((Int.tmod v2 10) = 0 → QF σ))))) : Wx K_X0_isRowOfSteps (QZ QT QF) 20 [(0, .int (iI v0)), (2, .int (iI v2)), (3, .int (iI v3))] [] σ := by
  intro p l e s m args below meth c D cA ad X0 hr hlk
  have X : Cx p s m args c (adA ad) D cA ad RX0 cX0_isRowOfSteps 4 := X0
  refine g_iload_n X 2 dX0_isRowOfSteps_20 rfl ?_
  refine g_iload_n X 0 dX0_isRowOfSteps_21 rfl ?_
  refine g_icmp_ge X (tgt := 45) dX0_isRowOfSteps_22 (by decide) h32v3 h32v0 (fun c1 => ?_) (fun c1 => ?_)
  · have h := h.1 c1
    refine g_iload_n X 1 dX0_isRowOfSteps_45 rfl ?_
    refine g_if_ne X (tgt := 53) dX0_isRowOfSteps_46 (by decide) h32v2 (fun c2 => ?_) (fun c2 => ?_)
    · have h := h.1 c2
      refine g_iconst X dX0_isRowOfSteps_53 ?_
      exact g_iret X hr hlk dX0_isRowOfSteps_54 rfl (Or.inr ⟨rfl, h⟩)
    · have h := h.2 c2
      refine g_iconst X dX0_isRowOfSteps_49 ?_
      refine g_goto X (tgt := 54) dX0_isRowOfSteps_50 (by decide) ?_
      exact g_iret X hr hlk dX0_isRowOfSteps_54 rfl (Or.inl ⟨rfl, h⟩)
  · have h := h.2 c1
    refine g_iload_n X 1 dX0_isRowOfSteps_25 rfl ?_
    refine g_bipush X dX0_isRowOfSteps_26 (by decide +kernel) ?_
    refine g_irem X dX0_isRowOfSteps_28 h32v2 (by omega) (by decide) ?_
    obtain ⟨q3, h⟩ := h
    refine g_if_ne X (tgt := 34) dX0_isRowOfSteps_29 (by decide) q3 (fun c4 => ?_) (fun c4 => ?_)
    · have h := h.1 c4
      refine g_iload_n X 1 dX0_isRowOfSteps_34 rfl ?_
      refine g_bipush X dX0_isRowOfSteps_35 (by decide +kernel) ?_
      refine g_idiv X dX0_isRowOfSteps_37 h32v2 (by omega) (by decide) ?_
      refine g_istore_n X (lv' := [(2, .int (iI (Int.tdiv v2 10))), (0, .int (iI v0)), (3, .int (iI v3))]) dX0_isRowOfSteps_38 (by decide) rfl ?_
      refine g_iinc X (x := v3) (lv' := [(3, .int (iI (v3 + 1))), (2, .int (iI (Int.tdiv v2 10))), (0, .int (iI v0))]) 2 dX0_isRowOfSteps_39 rfl (by decide) rfl ?_
      refine g_goto X (tgt := 20) dX0_isRowOfSteps_42 (by decide) ?_
      exact g_sub (lv' := [(0, .int (iI v0)), (2, .int (iI (Int.tdiv v2 10))), (3, .int (iI (v3 + 1)))]) [2, 1, 0] rfl (h p l e s m args below meth c D cA ad X0 hr hlk)
    · have h := h.2 c4
      refine g_iconst X dX0_isRowOfSteps_32 ?_
      exact g_iret X hr hlk dX0_isRowOfSteps_33 rfl (Or.inr ⟨rfl, h⟩)
theorem bX0_kind_0 {a0 : Nat} {σ : ASt} {Q : Int → ASt → Prop} (ha0 : shp a0 = (0, 0, 0)) (h : Wx K_X0_kind (QI Q) 2 [(0, .ref a0), (1, .int (iI 1))] [] σ) : Wx K_X0_kind (QI Q) 0 [(0, .ref a0)] [] σ := by
  intro p l e s m args below meth c D cA ad X0 hr hlk
  have X : Cx p s m args c (adA ad) D cA ad RX0 cX0_kind 2 := X0
  refine g_iconst X dX0_kind_0 ?_
  refine g_istore_n X (lv' := [(1, .int (iI 1)), (0, .ref a0)]) dX0_kind_1 (by decide) rfl ?_
  exact g_sub (lv' := [(0, .ref a0), (1, .int (iI 1))]) [1, 0] rfl (h p l e s m args below meth c D cA ad X0 hr hlk)
theorem eX0_kind {a0 : Nat} {σ : ASt} {Q : Int → ASt → Prop} (ha0 : shp a0 = (0, 0, 0)) (h : Wx K_X0_kind (QI Q) 2 [(0, .ref a0), (1, .int (iI 1))] [] σ) : EvI K_X0_kind [.ref a0] σ Q := Ev.of rfl (Nat.le_of_ble_eq_true rfl) rfl (bX0_kind_0 ha0 h)
theorem bX0_kind_2 {a0 : Nat} {v1 : Int} {σ : ASt} {Q : Int → ASt → Prop} (ha0 : shp a0 = (0, 0, 0)) (h32v1 : i32 v1) (h : i32 ((gI σ a0 3)) ∧ (((gI σ a0 3) ≤ v1 → i32 ((gI σ (a0 + 6) 0)) ∧ (((gI σ (a0 + 6) 0) ≠ 1 → (((gI σ (a0 + 6) 0) ≠ 2 → Q 1 σ) ∧ ((gI σ (a0 + 6) 0) = 2 → Q 3 σ))) ∧ ((gI σ (a0 + 6) 0) = 1 → Q 2 σ))) ∧ (v1 < (gI σ a0 3) → ((43 ≤ v1 → i32 ((gI σ (a0 + 6) 0)) ∧ (((gI σ (a0 + 6) 0) ≠ 1 → (((gI σ (a0 + 6) 0) ≠ 2 → Q 1 σ) ∧ ((gI σ (a0 + 6) 0) = 2 → Q 3 σ))) ∧ ((gI σ (a0 + 6) 0) = 1 → Q 2 σ))) ∧ (v1 < 43 → ((0 : Int) ≤ v1 ∧ v1 < 43) ∧ i32 ((gI σ (a0 + 6) v1)) ∧ i32 ((gI σ (a0 + 6) 0)) ∧ (((gI σ (a0 + 6) v1) = (gI σ (a0 + 6) 0) → Wx K_X0_kind (QI Q) 2 [(0, .ref a0), (1, .int (iI (v1 + 1)))] [] σ) ∧ ((gI σ (a0 + 6) v1) ≠ (gI σ (a0 + 6) 0) → Q 0 σ))))))) : Wx K_X0_kind (QI Q) 2 [(0, .ref a0), (1, .int (iI v1))] [] σ := by
  intro p l e s m args below meth c D cA ad X0 hr hlk
  have X : Cx p s m args c (adA ad) D cA ad RX0 cX0_kind 2 := X0
  refine g_iload_n X 1 dX0_kind_2 rfl ?_
  refine g_aload_n X 0 dX0_kind_3 rfl ?_
  refine g_getI X (z := 3) dX0_kind_4 lf_X0_40 ha0 rfl rfl ?_
  obtain ⟨q1, h⟩ := h
  refine g_icmp_ge X (tgt := 42) dX0_kind_7 (by decide) h32v1 q1 (fun c2 => ?_) (fun c2 => ?_)
  · have h := h.1 c2
    refine g_aload_n X 0 dX0_kind_42 rfl ?_
    refine g_getF X (f := (a0 + 6)) dX0_kind_43 lf_X0_9 ha0 rfl (fn_0_1 ha0) ?_
    refine g_iconst X dX0_kind_46 ?_
    refine g_iald X dX0_kind_47 (sf_0_1 ha0) (by omega) (by omega) ?_
    refine g_iconst X dX0_kind_48 ?_
    obtain ⟨q3, h⟩ := h
    refine g_icmp_ne X (tgt := 54) dX0_kind_49 (by decide) q3 (by omega) (fun c4 => ?_) (fun c4 => ?_)
    · have h := h.1 c4
      refine g_aload_n X 0 dX0_kind_54 rfl ?_
      refine g_getF X (f := (a0 + 6)) dX0_kind_55 lf_X0_9 ha0 rfl (fn_0_1 ha0) ?_
      refine g_iconst X dX0_kind_58 ?_
      refine g_iald X dX0_kind_59 (sf_0_1 ha0) (by omega) (by omega) ?_
      refine g_iconst X dX0_kind_60 ?_
      refine g_icmp_ne X (tgt := 68) dX0_kind_61 (by decide) q3 (by omega) (fun c5 => ?_) (fun c5 => ?_)
      · have h := h.1 c5
        refine g_iconst X dX0_kind_68 ?_
        exact g_iret X hr hlk dX0_kind_69 rfl ⟨_, rfl, (by omega), h⟩
      · have h := h.2 c5
        refine g_iconst X dX0_kind_64 ?_
        refine g_goto X (tgt := 69) dX0_kind_65 (by decide) ?_
        exact g_iret X hr hlk dX0_kind_69 rfl ⟨_, rfl, (by omega), h⟩
    · have h := h.2 c4
      refine g_iconst X dX0_kind_52 ?_
      exact g_iret X hr hlk dX0_kind_53 rfl ⟨_, rfl, (by omega), h⟩
  · have h := h.2 c2
    refine g_iload_n X 1 dX0_kind_10 rfl ?_
    refine g_aload_n X 0 dX0_kind_11 rfl ?_
    refine g_getF X (f := (a0 + 6)) dX0_kind_12 lf_X0_9 ha0 rfl (fn_0_1 ha0) ?_
    refine g_alen1 X (z := 43) dX0_kind_15 (sf_0_1 ha0) rfl ?_
    refine g_icmp_ge X (tgt := 42) dX0_kind_16 (by decide) h32v1 (by omega) (fun c6 => ?_) (fun c6 => ?_)
    · have h := h.1 c6
      refine g_aload_n X 0 dX0_kind_42 rfl ?_
      refine g_getF X (f := (a0 + 6)) dX0_kind_43 lf_X0_9 ha0 rfl (fn_0_1 ha0) ?_
      refine g_iconst X dX0_kind_46 ?_
      refine g_iald X dX0_kind_47 (sf_0_1 ha0) (by omega) (by omega) ?_
      refine g_iconst X dX0_kind_48 ?_
      obtain ⟨q7, h⟩ := h
      refine g_icmp_ne X (tgt := 54) dX0_kind_49 (by decide) q7 (by omega) (fun c8 => ?_) (fun c8 => ?_)
      · have h := h.1 c8
        refine g_aload_n X 0 dX0_kind_54 rfl ?_
        refine g_getF X (f := (a0 + 6)) dX0_kind_55 lf_X0_9 ha0 rfl (fn_0_1 ha0) ?_
        refine g_iconst X dX0_kind_58 ?_
        refine g_iald X dX0_kind_59 (sf_0_1 ha0) (by omega) (by omega) ?_
        refine g_iconst X dX0_kind_60 ?_
        refine g_icmp_ne X (tgt := 68) dX0_kind_61 (by decide) q7 (by omega) (fun c9 => ?_) (fun c9 => ?_)
        · have h := h.1 c9
          refine g_iconst X dX0_kind_68 ?_
          exact g_iret X hr hlk dX0_kind_69 rfl ⟨_, rfl, (by omega), h⟩
        · have h := h.2 c9
          refine g_iconst X dX0_kind_64 ?_
          refine g_goto X (tgt := 69) dX0_kind_65 (by decide) ?_
          exact g_iret X hr hlk dX0_kind_69 rfl ⟨_, rfl, (by omega), h⟩
      · have h := h.2 c8
        refine g_iconst X dX0_kind_52 ?_
        exact g_iret X hr hlk dX0_kind_53 rfl ⟨_, rfl, (by omega), h⟩
    · have h := h.2 c6
      refine g_aload_n X 0 dX0_kind_19 rfl ?_
      refine g_getF X (f := (a0 + 6)) dX0_kind_20 lf_X0_9 ha0 rfl (fn_0_1 ha0) ?_
      refine g_iload_n X 1 dX0_kind_23 rfl ?_
      obtain ⟨q10, h⟩ := h
      refine g_iald X dX0_kind_24 (sf_0_1 ha0) q10.1 q10.2 ?_
      refine g_aload_n X 0 dX0_kind_25 rfl ?_
      refine g_getF X (f := (a0 + 6)) dX0_kind_26 lf_X0_9 ha0 rfl (fn_0_1 ha0) ?_
      refine g_iconst X dX0_kind_29 ?_
      refine g_iald X dX0_kind_30 (sf_0_1 ha0) (by omega) (by omega) ?_
      obtain ⟨q11, h⟩ := h
      obtain ⟨q12, h⟩ := h
      refine g_icmp_eq X (tgt := 36) dX0_kind_31 (by decide) q11 q12 (fun c13 => ?_) (fun c13 => ?_)
      · have h := h.1 c13
        refine g_iinc X (x := v1) (lv' := [(1, .int (iI (v1 + 1))), (0, .ref a0)]) 1 dX0_kind_36 rfl (by decide) rfl ?_
        refine g_goto X (tgt := 2) dX0_kind_39 (by decide) ?_
        exact g_sub (lv' := [(0, .ref a0), (1, .int (iI (v1 + 1)))]) [1, 0] rfl (h p l e s m args below meth c D cA ad X0 hr hlk)
      · have h := h.2 c13
        refine g_iconst X dX0_kind_34 ?_
        exact g_iret X hr hlk dX0_kind_35 rfl ⟨_, rfl, (by omega), h⟩
theorem bX0_makeWorths_0 {a0 : Nat} {σ : ASt} {Q : ASt → Prop} (ha0 : shp a0 = (0, 0, 0)) (h : Wx K_X0_makeWorths (QV Q) 7 [(0, .ref a0), (1, .long (lI 1)), (3, .long (lI 1)), (5, .int (iI 0))] [] σ) : Wx K_X0_makeWorths (QV Q) 0 [(0, .ref a0)] [] σ := by
  intro p l e s m args below meth c D cA ad X0 hr hlk
  have X : Cx p s m args c (adA ad) D cA ad RX0 cX0_makeWorths 8 := X0
  refine g_lconst X (z := 1) dX0_makeWorths_0 (by decide +kernel) ?_
  refine g_lstore_n X (lv' := [(1, .long (lI 1)), (0, .ref a0)]) dX0_makeWorths_1 (by decide) rfl ?_
  refine g_lconst X (z := 1) dX0_makeWorths_2 (by decide +kernel) ?_
  refine g_lstore_n X (lv' := [(3, .long (lI 1)), (1, .long (lI 1)), (0, .ref a0)]) dX0_makeWorths_3 (by decide) rfl ?_
  refine g_iconst X dX0_makeWorths_4 ?_
  refine g_istore X (lv' := [(5, .int (iI 0)), (3, .long (lI 1)), (1, .long (lI 1)), (0, .ref a0)]) dX0_makeWorths_5 (by decide) rfl ?_
  exact g_sub (lv' := [(0, .ref a0), (1, .long (lI 1)), (3, .long (lI 1)), (5, .int (iI 0))]) [3, 2, 1, 0] rfl (h p l e s m args below meth c D cA ad X0 hr hlk)
theorem eX0_makeWorths {a0 : Nat} {σ : ASt} {Q : ASt → Prop} (ha0 : shp a0 = (0, 0, 0)) (h : Wx K_X0_makeWorths (QV Q) 7 [(0, .ref a0), (1, .long (lI 1)), (3, .long (lI 1)), (5, .int (iI 0))] [] σ) : EvV K_X0_makeWorths [.ref a0] σ Q := Ev.of rfl (Nat.le_of_ble_eq_true rfl) rfl (bX0_makeWorths_0 ha0 h)
theorem bX0_makeWorths_7 {a0 : Nat} {v1 : Int} {v3 : Int} {v5 : Int} {σ : ASt} {Q : ASt → Prop} (ha0 : shp a0 = (0, 0, 0)) (h32v5 : i32 v5) (h64v3 : i64 v3) (h : ((43 ≤ v5 → Q (sL σ a0 5 (v3 - 1))) ∧ (v5 < 43 → ((1000000000 < v3 → Q (sL σ a0 5 (v3 - 1))) ∧ (v3 ≤ 1000000000 → ((0 : Int) ≤ v5 ∧ v5 < 43) ∧ i32 ((gI (sI (sL σ (a0 + 12) v5 v3) a0 4 (v5 + 1)) (a0 + 6) v5)) ∧ Wx K_X0_makeWorths (QV Q) 7 [(0, .ref a0), (1, .long (lI v3)), (3, .long (lI (((gI (sI (sL σ (a0 + 12) v5 v3) a0 4 (v5 + 1)) (a0 + 6) v5) * v3) + v1))), (5, .int (iI (v5 + 1)))] [] (sI (sL σ (a0 + 12) v5 v3) a0 4 (v5 + 1))))))) : Wx K_X0_makeWorths (QV Q) 7 [(0, .ref a0), (1, .long (lI v1)), (3, .long (lI v3)), (5, .int (iI v5))] [] σ := by
  intro p l e s m args below meth c D cA ad X0 hr hlk
  have X : Cx p s m args c (adA ad) D cA ad RX0 cX0_makeWorths 8 := X0
  refine g_iload X 3 dX0_makeWorths_7 rfl ?_
  refine g_aload_n X 0 dX0_makeWorths_9 rfl ?_
  refine g_getF X (f := (a0 + 12)) dX0_makeWorths_10 lf_X0_15 ha0 rfl (fn_0_2 ha0) ?_
  refine g_alen2 X (z := 43) dX0_makeWorths_13 (sf_0_2 ha0) rfl ?_
  refine g_icmp_ge X (tgt := 66) dX0_makeWorths_14 (by decide) h32v5 (by omega) (fun c1 => ?_) (fun c1 => ?_)
  · have h := h.1 c1
    refine g_aload_n X 0 dX0_makeWorths_66 rfl ?_
    refine g_lload_n X 2 dX0_makeWorths_67 rfl ?_
    refine g_lconst X (z := 1) dX0_makeWorths_68 (by decide +kernel) ?_
    refine g_lsub X dX0_makeWorths_69 ?_
    refine g_putL X (j := 5) (z := 5) dX0_makeWorths_70 lp_X0_51 ha0 rfl rfl ?_
    exact g_vret X hr hlk dX0_makeWorths_73 ⟨rfl, h⟩
  · have h := h.2 c1
    refine g_lload_n X 2 dX0_makeWorths_17 rfl ?_
    refine g_ldc2 X (z := 1000000000) dX0_makeWorths_18 lc_X0_46 (by decide +kernel) ?_
    refine g_lc_gt X (tgt := 66) dX0_makeWorths_21 dX0_makeWorths_22 (by decide) h64v3 (by omega) (fun c2 => ?_) (fun c2 => ?_)
    · have h := h.1 c2
      refine g_aload_n X 0 dX0_makeWorths_66 rfl ?_
      refine g_lload_n X 2 dX0_makeWorths_67 rfl ?_
      refine g_lconst X (z := 1) dX0_makeWorths_68 (by decide +kernel) ?_
      refine g_lsub X dX0_makeWorths_69 ?_
      refine g_putL X (j := 5) (z := 5) dX0_makeWorths_70 lp_X0_51 ha0 rfl rfl ?_
      exact g_vret X hr hlk dX0_makeWorths_73 ⟨rfl, h⟩
    · have h := h.2 c2
      refine g_aload_n X 0 dX0_makeWorths_25 rfl ?_
      refine g_getF X (f := (a0 + 12)) dX0_makeWorths_26 lf_X0_15 ha0 rfl (fn_0_2 ha0) ?_
      refine g_iload X 3 dX0_makeWorths_29 rfl ?_
      refine g_lload_n X 2 dX0_makeWorths_31 rfl ?_
      obtain ⟨q3, h⟩ := h
      refine g_last X dX0_makeWorths_32 (sf_0_2 ha0) q3.1 q3.2 ?_
      refine g_aload_n X 0 dX0_makeWorths_33 rfl ?_
      refine g_iload X 3 dX0_makeWorths_34 rfl ?_
      refine g_iconst X dX0_makeWorths_36 ?_
      refine g_iadd X dX0_makeWorths_37 ?_
      refine g_putI X (j := 4) (z := 4) dX0_makeWorths_38 lp_X0_48 ha0 rfl rfl ?_
      refine g_aload_n X 0 dX0_makeWorths_41 rfl ?_
      refine g_getF X (f := (a0 + 6)) dX0_makeWorths_42 lf_X0_9 ha0 rfl (fn_0_1 ha0) ?_
      refine g_iload X 3 dX0_makeWorths_45 rfl ?_
      refine g_iald X dX0_makeWorths_47 (sf_0_1 ha0) q3.1 q3.2 ?_
      obtain ⟨q4, h⟩ := h
      refine g_i2l X dX0_makeWorths_48 q4 ?_
      refine g_lload_n X 2 dX0_makeWorths_49 rfl ?_
      refine g_lmul X dX0_makeWorths_50 ?_
      refine g_lload_n X 1 dX0_makeWorths_51 rfl ?_
      refine g_ladd X dX0_makeWorths_52 ?_
      refine g_lstore X (lv' := [(6, .long (lI (((gI (sI (sL σ (a0 + 12) v5 v3) a0 4 (v5 + 1)) (a0 + 6) v5) * v3) + v1))), (0, .ref a0), (1, .long (lI v1)), (3, .long (lI v3)), (5, .int (iI v5))]) dX0_makeWorths_53 (by decide) rfl ?_
      refine g_lload_n X 3 dX0_makeWorths_55 rfl ?_
      refine g_lstore_n X (lv' := [(1, .long (lI v3)), (6, .long (lI (((gI (sI (sL σ (a0 + 12) v5 v3) a0 4 (v5 + 1)) (a0 + 6) v5) * v3) + v1))), (0, .ref a0), (3, .long (lI v3)), (5, .int (iI v5))]) dX0_makeWorths_56 (by decide) rfl ?_
      refine g_lload X 1 dX0_makeWorths_57 rfl ?_
      refine g_lstore_n X (lv' := [(3, .long (lI (((gI (sI (sL σ (a0 + 12) v5 v3) a0 4 (v5 + 1)) (a0 + 6) v5) * v3) + v1))), (1, .long (lI v3)), (6, .long (lI (((gI (sI (sL σ (a0 + 12) v5 v3) a0 4 (v5 + 1)) (a0 + 6) v5) * v3) + v1))), (0, .ref a0), (5, .int (iI v5))]) dX0_makeWorths_59 (by decide) rfl ?_
      refine g_iinc X (x := v5) (lv' := [(5, .int (iI (v5 + 1))), (3, .long (lI (((gI (sI (sL σ (a0 + 12) v5 v3) a0 4 (v5 + 1)) (a0 + 6) v5) * v3) + v1))), (1, .long (lI v3)), (6, .long (lI (((gI (sI (sL σ (a0 + 12) v5 v3) a0 4 (v5 + 1)) (a0 + 6) v5) * v3) + v1))), (0, .ref a0)]) 4 dX0_makeWorths_60 rfl (by decide) rfl ?_
      refine g_goto X (tgt := 7) dX0_makeWorths_63 (by decide) ?_
      exact g_sub (lv' := [(0, .ref a0), (1, .long (lI v3)), (3, .long (lI (((gI (sI (sL σ (a0 + 12) v5 v3) a0 4 (v5 + 1)) (a0 + 6) v5) * v3) + v1))), (5, .int (iI (v5 + 1)))]) [4, 2, 1, 0] rfl (h p l e s m args below meth c D cA ad X0 hr hlk)
theorem bX0_settleAll_0 {a0 : Nat} {a1 : Nat} {σ : ASt} {Q : Int → ASt → Prop} (ha0 : shp a0 = (0, 0, 0)) (ha1 : shp a1 = (1, 0, 43)) (h : Wx K_X0_settleAll (QI Q) 9 [(0, .ref a0), (1, .ref a1), (2, .int (iI ((gI σ a0 4) - 2))), (3, .int (iI 0))] [] σ) : Wx K_X0_settleAll (QI Q) 0 [(0, .ref a0), (1, .ref a1)] [] σ := by
  intro p l e s m args below meth c D cA ad X0 hr hlk
  have X : Cx p s m args c (adA ad) D cA ad RX0 cX0_settleAll 4 := X0
  refine g_aload_n X 0 dX0_settleAll_0 rfl ?_
  refine g_getI X (z := 4) dX0_settleAll_1 lf_X0_48 ha0 rfl rfl ?_
  refine g_iconst X dX0_settleAll_4 ?_
  refine g_isub X dX0_settleAll_5 ?_
  refine g_istore_n X (lv' := [(2, .int (iI ((gI σ a0 4) - 2))), (0, .ref a0), (1, .ref a1)]) dX0_settleAll_6 (by decide) rfl ?_
  refine g_iconst X dX0_settleAll_7 ?_
  refine g_istore_n X (lv' := [(3, .int (iI 0)), (2, .int (iI ((gI σ a0 4) - 2))), (0, .ref a0), (1, .ref a1)]) dX0_settleAll_8 (by decide) rfl ?_
  exact g_sub (lv' := [(0, .ref a0), (1, .ref a1), (2, .int (iI ((gI σ a0 4) - 2))), (3, .int (iI 0))]) [2, 3, 1, 0] rfl (h p l e s m args below meth c D cA ad X0 hr hlk)
theorem eX0_settleAll {a0 : Nat} {a1 : Nat} {σ : ASt} {Q : Int → ASt → Prop} (ha0 : shp a0 = (0, 0, 0)) (ha1 : shp a1 = (1, 0, 43)) (h : Wx K_X0_settleAll (QI Q) 9 [(0, .ref a0), (1, .ref a1), (2, .int (iI ((gI σ a0 4) - 2))), (3, .int (iI 0))] [] σ) : EvI K_X0_settleAll [.ref a0, .ref a1] σ Q := Ev.of rfl (Nat.le_of_ble_eq_true rfl) rfl (bX0_settleAll_0 ha0 ha1 h)
theorem bX0_settleAll_9 {a0 : Nat} {a1 : Nat} {v2 : Int} {v3 : Int} {σ : ASt} {Q : Int → ASt → Prop} (ha0 : shp a0 = (0, 0, 0)) (ha1 : shp a1 = (1, 0, 43)) (h32v3 : i32 v3) (h : ((4257 ≤ v3 → Q 4257 σ) ∧ (v3 < 4257 → EvI K_X0_highestCarry [.ref a0, .ref a1, .int (iI v2)] σ (fun x3 s2 => ((0 ≤ x3 → EvV K_X0_carryOnce [.ref a0, .ref a1, .int (iI x3), .int (iI 1)] s2 (fun s6 => i32 ((x3 + 2)) ∧ i32 (((gI s6 a0 4) - 2)) ∧ Wx K_X0_settleAll (QI Q) 9 [(0, .ref a0), (1, .ref a1), (2, .int (iI (if (((gI s6 a0 4) - 2) : Int) < (x3 + 2) then ((gI s6 a0 4) - 2) else (x3 + 2)))), (3, .int (iI (v3 + 1)))] [] s6)) ∧ (x3 < 0 → Q v3 s2)))))) : Wx K_X0_settleAll (QI Q) 9 [(0, .ref a0), (1, .ref a1), (2, .int (iI v2)), (3, .int (iI v3))] [] σ := by
  intro p l e s m args below meth c D cA ad X0 hr hlk
  have X : Cx p s m args c (adA ad) D cA ad RX0 cX0_settleAll 4 := X0
  refine g_iload_n X 3 dX0_settleAll_9 rfl ?_
  refine g_sipush X dX0_settleAll_10 (by decide +kernel) ?_
  refine g_icmp_ge X (tgt := 55) dX0_settleAll_13 (by decide) h32v3 (by omega) (fun c1 => ?_) (fun c1 => ?_)
  · have h := h.1 c1
    refine g_sipush X dX0_settleAll_55 (by decide +kernel) ?_
    exact g_iret X hr hlk dX0_settleAll_58 rfl ⟨_, rfl, (by omega), h⟩
  · have h := h.2 c1
    refine g_aload_n X 0 dX0_settleAll_16 rfl ?_
    refine g_aload_n X 1 dX0_settleAll_17 rfl ?_
    refine g_iload_n X 2 dX0_settleAll_18 rfl ?_
    refine g_cVI X (K := K_X0_highestCarry) [.ref a1, .int (iI v2)] [] dX0_settleAll_19 lv_X0_80 rm_X0_settleAll_X0_highestCarry ⟨by decide, by decide⟩ adA_id ha0 rfl rfl (Nat.le_of_ble_eq_true rfl) rfl h (fun x3 s2 q4 h => ?_)
    refine g_istore_n X (lv' := [(2, .int (iI x3)), (0, .ref a0), (1, .ref a1), (3, .int (iI v3))]) dX0_settleAll_22 (by decide) rfl ?_
    refine g_iload_n X 0 dX0_settleAll_23 rfl ?_
    refine g_if_ge X (tgt := 29) dX0_settleAll_24 (by decide) q4 (fun c5 => ?_) (fun c5 => ?_)
    · have h := h.1 c5
      refine g_aload_n X 1 dX0_settleAll_29 rfl ?_
      refine g_aload_n X 2 dX0_settleAll_30 rfl ?_
      refine g_iload_n X 0 dX0_settleAll_31 rfl ?_
      refine g_iconst X dX0_settleAll_32 ?_
      refine g_cVV X (K := K_X0_carryOnce) [.ref a1, .int (iI x3), .int (iI 1)] [] dX0_settleAll_33 lv_X0_84 rm_X0_settleAll_X0_carryOnce ⟨by decide, by decide⟩ adA_id ha0 rfl rfl (Nat.le_of_ble_eq_true rfl) rfl h (fun s6 h => ?_)
      refine g_iload_n X 0 dX0_settleAll_36 rfl ?_
      refine g_iconst X dX0_settleAll_37 ?_
      refine g_iadd X dX0_settleAll_38 ?_
      refine g_aload_n X 1 dX0_settleAll_39 rfl ?_
      refine g_getI X (z := 4) dX0_settleAll_40 lf_X0_48 ha0 rfl rfl ?_
      refine g_iconst X dX0_settleAll_43 ?_
      refine g_isub X dX0_settleAll_44 ?_
      obtain ⟨q7, h⟩ := h
      obtain ⟨q8, h⟩ := h
      refine g_mmin X dX0_settleAll_45 lm_X0_31 (by decide) (Nat.le_of_ble_eq_true rfl) ⟨by decide, by decide⟩ q7 q8 ?_
      refine g_istore_n X (lv' := [(2, .int (iI (if (((gI s6 a0 4) - 2) : Int) < (x3 + 2) then ((gI s6 a0 4) - 2) else (x3 + 2)))), (0, .ref a0), (1, .ref a1), (3, .int (iI v3))]) dX0_settleAll_48 (by decide) rfl ?_
      refine g_iinc X (x := v3) (lv' := [(3, .int (iI (v3 + 1))), (2, .int (iI (if (((gI s6 a0 4) - 2) : Int) < (x3 + 2) then ((gI s6 a0 4) - 2) else (x3 + 2)))), (0, .ref a0), (1, .ref a1)]) 3 dX0_settleAll_49 rfl (by decide) rfl ?_
      refine g_goto X (tgt := 9) dX0_settleAll_52 (by decide) ?_
      exact g_sub (lv' := [(0, .ref a0), (1, .ref a1), (2, .int (iI (if (((gI s6 a0 4) - 2) : Int) < (x3 + 2) then ((gI s6 a0 4) - 2) else (x3 + 2)))), (3, .int (iI (v3 + 1)))]) [2, 3, 1, 0] rfl (h p l e s m args below meth c D cA ad X0 hr hlk)
    · have h := h.2 c5
      refine g_iload_n X 3 dX0_settleAll_27 rfl ?_
      exact g_iret X hr hlk dX0_settleAll_28 rfl ⟨_, rfl, h32v3, h⟩
theorem bX0_shiftInto_0 {a0 : Nat} {a1 : Nat} {a2 : Nat} {v3 : Int} {σ : ASt} {Q : ASt → Prop} (ha0 : shp a0 = (0, 0, 0)) (ha1 : shp a1 = (1, 0, 43)) (ha2 : shp a2 = (1, 0, 43)) (h : Wx K_X0_shiftInto (QV Q) 3 [(0, .ref a0), (1, .ref a1), (2, .ref a2), (3, .int (iI v3)), (4, .int (iI 0))] [] σ) : Wx K_X0_shiftInto (QV Q) 0 [(0, .ref a0), (1, .ref a1), (2, .ref a2), (3, .int (iI v3))] [] σ := by
  intro p l e s m args below meth c D cA ad X0 hr hlk
  have X : Cx p s m args c (adA ad) D cA ad RX0 cX0_shiftInto 6 := X0
  refine g_iconst X dX0_shiftInto_0 ?_
  refine g_istore X (lv' := [(4, .int (iI 0)), (0, .ref a0), (1, .ref a1), (2, .ref a2), (3, .int (iI v3))]) dX0_shiftInto_1 (by decide) rfl ?_
  exact g_sub (lv' := [(0, .ref a0), (1, .ref a1), (2, .ref a2), (3, .int (iI v3)), (4, .int (iI 0))]) [1, 2, 3, 4, 0] rfl (h p l e s m args below meth c D cA ad X0 hr hlk)
theorem eX0_shiftInto {a0 : Nat} {a1 : Nat} {a2 : Nat} {v3 : Int} {σ : ASt} {Q : ASt → Prop} (ha0 : shp a0 = (0, 0, 0)) (ha1 : shp a1 = (1, 0, 43)) (ha2 : shp a2 = (1, 0, 43)) (h : Wx K_X0_shiftInto (QV Q) 3 [(0, .ref a0), (1, .ref a1), (2, .ref a2), (3, .int (iI v3)), (4, .int (iI 0))] [] σ) : EvV K_X0_shiftInto [.ref a0, .ref a1, .ref a2, .int (iI v3)] σ Q := Ev.of rfl (Nat.le_of_ble_eq_true rfl) rfl (bX0_shiftInto_0 ha0 ha1 ha2 h)
theorem bX0_shiftInto_3 {a0 : Nat} {a1 : Nat} {a2 : Nat} {v3 : Int} {v4 : Int} {σ : ASt} {Q : ASt → Prop} (ha0 : shp a0 = (0, 0, 0)) (ha1 : shp a1 = (1, 0, 43)) (ha2 : shp a2 = (1, 0, 43)) (h32v4 : i32 v4) (h : ((43 ≤ v4 → Q σ) ∧ (v4 < 43 → EvZ K_X0_hasPlace [.ref a0, .int (iI v4)] σ (fun s2 => EvZ K_X0_hasPlace [.ref a0, .int (iI (v4 - v3))] s2 (fun s3 => ((0 : Int) ≤ (v4 - v3) ∧ (v4 - v3) < 43) ∧ ((0 : Int) ≤ v4 ∧ v4 < 43) ∧ Wx K_X0_shiftInto (QV Q) 3 [(0, .ref a0), (1, .ref a1), (2, .ref a2), (3, .int (iI v3)), (4, .int (iI (v4 + 1)))] [] (sI s3 a1 v4 (gI s3 a2 (v4 - v3)))) (fun s3 => ((0 : Int) ≤ v4 ∧ v4 < 43) ∧ Wx K_X0_shiftInto (QV Q) 3 [(0, .ref a0), (1, .ref a1), (2, .ref a2), (3, .int (iI v3)), (4, .int (iI (v4 + 1)))] [] (sI s3 a1 v4 0))) (fun s2 => ((0 : Int) ≤ v4 ∧ v4 < 43) ∧ Wx K_X0_shiftInto (QV Q) 3 [(0, .ref a0), (1, .ref a1), (2, .ref a2), (3, .int (iI v3)), (4, .int (iI (v4 + 1)))] [] (sI s2 a1 v4 0))))) : Wx K_X0_shiftInto (QV Q) 3 [(0, .ref a0), (1, .ref a1), (2, .ref a2), (3, .int (iI v3)), (4, .int (iI v4))] [] σ := by
  intro p l e s m args below meth c D cA ad X0 hr hlk
  have X : Cx p s m args c (adA ad) D cA ad RX0 cX0_shiftInto 6 := X0
  refine g_iload X 4 dX0_shiftInto_3 rfl ?_
  refine g_aload_n X 1 dX0_shiftInto_5 rfl ?_
  refine g_alen1 X (z := 43) dX0_shiftInto_6 ha1 rfl ?_
  refine g_icmp_ge X (tgt := 52) dX0_shiftInto_7 (by decide) h32v4 (by omega) (fun c1 => ?_) (fun c1 => ?_)
  · have h := h.1 c1
    exact g_vret X hr hlk dX0_shiftInto_52 ⟨rfl, h⟩
  · have h := h.2 c1
    refine g_iload X 4 dX0_shiftInto_10 rfl ?_
    refine g_iload_n X 3 dX0_shiftInto_12 rfl ?_
    refine g_isub X dX0_shiftInto_13 ?_
    refine g_istore X (lv' := [(5, .int (iI (v4 - v3))), (0, .ref a0), (1, .ref a1), (2, .ref a2), (3, .int (iI v3)), (4, .int (iI v4))]) dX0_shiftInto_14 (by decide) rfl ?_
    refine g_aload_n X 2 dX0_shiftInto_16 rfl ?_
    refine g_iload X 5 dX0_shiftInto_17 rfl ?_
    refine g_aload_n X 1 dX0_shiftInto_19 rfl ?_
    refine g_iload X 5 dX0_shiftInto_20 rfl ?_
    refine g_cVZ X (K := K_X0_hasPlace) [.int (iI v4)] [.int (iI v4), .ref a1] dX0_shiftInto_22 lv_X0_65 rm_X0_shiftInto_X0_hasPlace ⟨by decide, by decide⟩ adA_id ha0 rfl rfl (Nat.le_of_ble_eq_true rfl) rfl h (fun s2 h => ?_) (fun s2 h => ?_)
    · skip
      refine g_if_eq X (tgt := 44) dX0_shiftInto_25 (by decide) (by omega) (fun hc => absurd hc (by decide)) (fun _ => ?_)
      refine g_aload_n X 1 dX0_shiftInto_28 rfl ?_
      refine g_iload X 0 dX0_shiftInto_29 rfl ?_
      refine g_cVZ X (K := K_X0_hasPlace) [.int (iI (v4 - v3))] [.int (iI v4), .ref a1] dX0_shiftInto_31 lv_X0_65 rm_X0_shiftInto_X0_hasPlace ⟨by decide, by decide⟩ adA_id ha0 rfl rfl (Nat.le_of_ble_eq_true rfl) rfl h (fun s3 h => ?_) (fun s3 h => ?_)
      · skip
        refine g_if_eq X (tgt := 44) dX0_shiftInto_34 (by decide) (by omega) (fun hc => absurd hc (by decide)) (fun _ => ?_)
        refine g_aload_n X 3 dX0_shiftInto_37 rfl ?_
        refine g_iload X 0 dX0_shiftInto_38 rfl ?_
        obtain ⟨q4, h⟩ := h
        refine g_iald X dX0_shiftInto_40 ha2 q4.1 q4.2 ?_
        refine g_goto X (tgt := 45) dX0_shiftInto_41 (by decide) ?_
        obtain ⟨q5, h⟩ := h
        refine g_iast X dX0_shiftInto_45 ha1 q5.1 q5.2 ?_
        refine g_iinc X (x := v4) (lv' := [(4, .int (iI (v4 + 1))), (5, .int (iI (v4 - v3))), (0, .ref a0), (1, .ref a1), (2, .ref a2), (3, .int (iI v3))]) 5 dX0_shiftInto_46 rfl (by decide) rfl ?_
        refine g_goto X (tgt := 3) dX0_shiftInto_49 (by decide) ?_
        exact g_sub (lv' := [(0, .ref a0), (1, .ref a1), (2, .ref a2), (3, .int (iI v3)), (4, .int (iI (v4 + 1)))]) [2, 3, 4, 5, 0] rfl (h p l e s m args below meth c D cA ad X0 hr hlk)
      · skip
        refine g_if_eq X (tgt := 44) dX0_shiftInto_34 (by decide) (by omega) (fun _ => ?_) (fun hc => absurd hc (by decide))
        refine g_iconst X dX0_shiftInto_44 ?_
        obtain ⟨q6, h⟩ := h
        refine g_iast X dX0_shiftInto_45 ha1 q6.1 q6.2 ?_
        refine g_iinc X (x := v4) (lv' := [(4, .int (iI (v4 + 1))), (5, .int (iI (v4 - v3))), (0, .ref a0), (1, .ref a1), (2, .ref a2), (3, .int (iI v3))]) 5 dX0_shiftInto_46 rfl (by decide) rfl ?_
        refine g_goto X (tgt := 3) dX0_shiftInto_49 (by decide) ?_
        exact g_sub (lv' := [(0, .ref a0), (1, .ref a1), (2, .ref a2), (3, .int (iI v3)), (4, .int (iI (v4 + 1)))]) [2, 3, 4, 5, 0] rfl (h p l e s m args below meth c D cA ad X0 hr hlk)
    · skip
      refine g_if_eq X (tgt := 44) dX0_shiftInto_25 (by decide) (by omega) (fun _ => ?_) (fun hc => absurd hc (by decide))
      refine g_iconst X dX0_shiftInto_44 ?_
      obtain ⟨q7, h⟩ := h
      refine g_iast X dX0_shiftInto_45 ha1 q7.1 q7.2 ?_
      refine g_iinc X (x := v4) (lv' := [(4, .int (iI (v4 + 1))), (5, .int (iI (v4 - v3))), (0, .ref a0), (1, .ref a1), (2, .ref a2), (3, .int (iI v3))]) 5 dX0_shiftInto_46 rfl (by decide) rfl ?_
      refine g_goto X (tgt := 3) dX0_shiftInto_49 (by decide) ?_
      exact g_sub (lv' := [(0, .ref a0), (1, .ref a1), (2, .ref a2), (3, .int (iI v3)), (4, .int (iI (v4 + 1)))]) [2, 3, 4, 5, 0] rfl (h p l e s m args below meth c D cA ad X0 hr hlk)
theorem bX0_tell_0 {a0 : Nat} {v1 : Int} {v2 : Int} {σ : ASt} {Q : ASt → Prop} (ha0 : shp a0 = (0, 0, 0)) (h32v1 : i32 v1) (h : i32 ((if (8 : Int) < v1 then 8 else v1)) ∧ Wx K_X0_tell (QV Q) 24 [(0, .ref a0), (3, .int (iI v2)), (4, .int (iI ((gI (sI σ a0 3 (if (1 : Int) < (if (8 : Int) < v1 then 8 else v1) then (if (8 : Int) < v1 then 8 else v1) else 1)) a0 3) - 1)))] [] (sI σ a0 3 (if (1 : Int) < (if (8 : Int) < v1 then 8 else v1) then (if (8 : Int) < v1 then 8 else v1) else 1))) : Wx K_X0_tell (QV Q) 0 [(0, .ref a0), (1, .int (iI v1)), (2, .int (iI v2))] [] σ := by
  intro p l e s m args below meth c D cA ad X0 hr hlk
  have X : Cx p s m args c (adA ad) D cA ad RX0 cX0_tell 5 := X0
  refine g_aload_n X 0 dX0_tell_0 rfl ?_
  refine g_iconst X dX0_tell_1 ?_
  refine g_iload_n X 1 dX0_tell_2 rfl ?_
  refine g_bipush X dX0_tell_3 (by decide +kernel) ?_
  refine g_mmin X dX0_tell_5 lm_X0_31 (by decide) (Nat.le_of_ble_eq_true rfl) ⟨by decide, by decide⟩ h32v1 (by omega) ?_
  obtain ⟨q1, h⟩ := h
  refine g_mmax X dX0_tell_8 lm_X0_37 (by decide) (Nat.le_of_ble_eq_true rfl) ⟨by decide, by decide⟩ (by omega) q1 ?_
  refine g_putI X (j := 3) (z := 3) dX0_tell_11 lp_X0_40 ha0 rfl rfl ?_
  refine g_iload_n X 2 dX0_tell_14 rfl ?_
  refine g_istore_n X (lv' := [(3, .int (iI v2)), (0, .ref a0), (1, .int (iI v1)), (2, .int (iI v2))]) dX0_tell_15 (by decide) rfl ?_
  refine g_aload_n X 1 dX0_tell_16 rfl ?_
  refine g_getI X (z := 3) dX0_tell_17 lf_X0_40 ha0 rfl rfl ?_
  refine g_iconst X dX0_tell_20 ?_
  refine g_isub X dX0_tell_21 ?_
  refine g_istore X (lv' := [(4, .int (iI ((gI (sI σ a0 3 (if (1 : Int) < (if (8 : Int) < v1 then 8 else v1) then (if (8 : Int) < v1 then 8 else v1) else 1)) a0 3) - 1))), (3, .int (iI v2)), (0, .ref a0), (1, .int (iI v1)), (2, .int (iI v2))]) dX0_tell_22 (by decide) rfl ?_
  exact g_sub (lv' := [(0, .ref a0), (3, .int (iI v2)), (4, .int (iI ((gI (sI σ a0 3 (if (1 : Int) < (if (8 : Int) < v1 then 8 else v1) then (if (8 : Int) < v1 then 8 else v1) else 1)) a0 3) - 1)))]) [2, 1, 0] rfl (h p l e s m args below meth c D cA ad X0 hr hlk)
theorem eX0_tell {a0 : Nat} {v1 : Int} {v2 : Int} {σ : ASt} {Q : ASt → Prop} (ha0 : shp a0 = (0, 0, 0)) (h32v1 : i32 v1) (h : i32 ((if (8 : Int) < v1 then 8 else v1)) ∧ Wx K_X0_tell (QV Q) 24 [(0, .ref a0), (3, .int (iI v2)), (4, .int (iI ((gI (sI σ a0 3 (if (1 : Int) < (if (8 : Int) < v1 then 8 else v1) then (if (8 : Int) < v1 then 8 else v1) else 1)) a0 3) - 1)))] [] (sI σ a0 3 (if (1 : Int) < (if (8 : Int) < v1 then 8 else v1) then (if (8 : Int) < v1 then 8 else v1) else 1))) : EvV K_X0_tell [.ref a0, .int (iI v1), .int (iI v2)] σ Q := Ev.of rfl (Nat.le_of_ble_eq_true rfl) rfl (bX0_tell_0 ha0 h32v1 h)
theorem bX0_tell_24 {a0 : Nat} {v3 : Int} {v4 : Int} {σ : ASt} {Q : ASt → Prop} (ha0 : shp a0 = (0, 0, 0)) (h32v3 : i32 v3) (h32v4 : i32 v4) (h : ((v4 < 0 → Wx K_X0_tell (QV Q) 57 [(0, .ref a0), (4, .int (iI (gI σ a0 3)))] [] σ) ∧ (0 ≤ v4 → ((0 : Int) ≤ v4 ∧ v4 < 43) ∧ Wx K_X0_tell (QV Q) 24 [(0, .ref a0), (3, .int (iI (Int.tdiv v3 10))), (4, .int (iI (v4 + (-1))))] [] (sI σ (a0 + 6) v4 (Int.tmod v3 10))))) : Wx K_X0_tell (QV Q) 24 [(0, .ref a0), (3, .int (iI v3)), (4, .int (iI v4))] [] σ := by
  intro p l e s m args below meth c D cA ad X0 hr hlk
  have X : Cx p s m args c (adA ad) D cA ad RX0 cX0_tell 5 := X0
  refine g_iload X 2 dX0_tell_24 rfl ?_
  refine g_if_lt X (tgt := 51) dX0_tell_26 (by decide) h32v4 (fun c1 => ?_) (fun c1 => ?_)
  · have h := h.1 c1
    refine g_aload_n X 0 dX0_tell_51 rfl ?_
    refine g_getI X (z := 3) dX0_tell_52 lf_X0_40 ha0 rfl rfl ?_
    refine g_istore X (lv' := [(4, .int (iI (gI σ a0 3))), (0, .ref a0), (3, .int (iI v3))]) dX0_tell_55 (by decide) rfl ?_
    exact g_sub (lv' := [(0, .ref a0), (4, .int (iI (gI σ a0 3)))]) [1, 0] rfl (h p l e s m args below meth c D cA ad X0 hr hlk)
  · have h := h.2 c1
    refine g_aload_n X 0 dX0_tell_29 rfl ?_
    refine g_getF X (f := (a0 + 6)) dX0_tell_30 lf_X0_9 ha0 rfl (fn_0_1 ha0) ?_
    refine g_iload X 2 dX0_tell_33 rfl ?_
    refine g_iload_n X 1 dX0_tell_35 rfl ?_
    refine g_bipush X dX0_tell_36 (by decide +kernel) ?_
    refine g_irem X dX0_tell_38 h32v3 (by omega) (by decide) ?_
    obtain ⟨q2, h⟩ := h
    refine g_iast X dX0_tell_39 (sf_0_1 ha0) q2.1 q2.2 ?_
    refine g_iload_n X 1 dX0_tell_40 rfl ?_
    refine g_bipush X dX0_tell_41 (by decide +kernel) ?_
    refine g_idiv X dX0_tell_43 h32v3 (by omega) (by decide) ?_
    refine g_istore_n X (lv' := [(3, .int (iI (Int.tdiv v3 10))), (0, .ref a0), (4, .int (iI v4))]) dX0_tell_44 (by decide) rfl ?_
    refine g_iinc X (x := v4) (lv' := [(4, .int (iI (v4 + (-1)))), (3, .int (iI (Int.tdiv v3 10))), (0, .ref a0)]) 2 dX0_tell_45 rfl (by decide) rfl ?_
    refine g_goto X (tgt := 24) dX0_tell_48 (by decide) ?_
    exact g_sub (lv' := [(0, .ref a0), (3, .int (iI (Int.tdiv v3 10))), (4, .int (iI (v4 + (-1))))]) [2, 1, 0] rfl (h p l e s m args below meth c D cA ad X0 hr hlk)
theorem bX0_tell_57 {a0 : Nat} {v4 : Int} {σ : ASt} {Q : ASt → Prop} (ha0 : shp a0 = (0, 0, 0)) (h32v4 : i32 v4) (h : ((43 ≤ v4 → EvV K_X0_makeWorths [.ref a0] σ (fun s2 => Q s2)) ∧ (v4 < 43 → ((0 : Int) ≤ (v4 - (gI σ a0 3)) ∧ (v4 - (gI σ a0 3)) < 43) ∧ ((0 : Int) ≤ v4 ∧ v4 < 43) ∧ Wx K_X0_tell (QV Q) 57 [(0, .ref a0), (4, .int (iI (v4 + 1)))] [] (sI σ (a0 + 6) v4 (gI σ (a0 + 6) (v4 - (gI σ a0 3))))))) : Wx K_X0_tell (QV Q) 57 [(0, .ref a0), (4, .int (iI v4))] [] σ := by
  intro p l e s m args below meth c D cA ad X0 hr hlk
  have X : Cx p s m args c (adA ad) D cA ad RX0 cX0_tell 5 := X0
  refine g_iload X 1 dX0_tell_57 rfl ?_
  refine g_aload_n X 0 dX0_tell_59 rfl ?_
  refine g_getF X (f := (a0 + 6)) dX0_tell_60 lf_X0_9 ha0 rfl (fn_0_1 ha0) ?_
  refine g_alen1 X (z := 43) dX0_tell_63 (sf_0_1 ha0) rfl ?_
  refine g_icmp_ge X (tgt := 92) dX0_tell_64 (by decide) h32v4 (by omega) (fun c1 => ?_) (fun c1 => ?_)
  · have h := h.1 c1
    refine g_aload_n X 0 dX0_tell_92 rfl ?_
    refine g_cVV X (K := K_X0_makeWorths) [] [] dX0_tell_93 lv_X0_43 rm_X0_tell_X0_makeWorths ⟨by decide, by decide⟩ adA_id ha0 rfl rfl (Nat.le_of_ble_eq_true rfl) rfl h (fun s2 h => ?_)
    exact g_vret X hr hlk dX0_tell_96 ⟨rfl, h⟩
  · have h := h.2 c1
    refine g_aload_n X 0 dX0_tell_67 rfl ?_
    refine g_getF X (f := (a0 + 6)) dX0_tell_68 lf_X0_9 ha0 rfl (fn_0_1 ha0) ?_
    refine g_iload X 1 dX0_tell_71 rfl ?_
    refine g_aload_n X 0 dX0_tell_73 rfl ?_
    refine g_getF X (f := (a0 + 6)) dX0_tell_74 lf_X0_9 ha0 rfl (fn_0_1 ha0) ?_
    refine g_iload X 1 dX0_tell_77 rfl ?_
    refine g_aload_n X 0 dX0_tell_79 rfl ?_
    refine g_getI X (z := 3) dX0_tell_80 lf_X0_40 ha0 rfl rfl ?_
    refine g_isub X dX0_tell_83 ?_
    obtain ⟨q3, h⟩ := h
    refine g_iald X dX0_tell_84 (sf_0_1 ha0) q3.1 q3.2 ?_
    obtain ⟨q4, h⟩ := h
    refine g_iast X dX0_tell_85 (sf_0_1 ha0) q4.1 q4.2 ?_
    refine g_iinc X (x := v4) (lv' := [(4, .int (iI (v4 + 1))), (0, .ref a0)]) 1 dX0_tell_86 rfl (by decide) rfl ?_
    refine g_goto X (tgt := 57) dX0_tell_89 (by decide) ?_
    exact g_sub (lv' := [(0, .ref a0), (4, .int (iI (v4 + 1)))]) [1, 0] rfl (h p l e s m args below meth c D cA ad X0 hr hlk)
theorem bX0_valueBelow_0 {a0 : Nat} {a1 : Nat} {v2 : Int} {σ : ASt} {Q : Int → ASt → Prop} (ha0 : shp a0 = (0, 0, 0)) (ha1 : shp a1 = (1, 0, 43)) (h : Wx K_X0_valueBelow (QL Q) 5 [(0, .ref a0), (1, .ref a1), (2, .int (iI v2)), (3, .long (lI 0)), (5, .int (iI 0))] [] σ) : Wx K_X0_valueBelow (QL Q) 0 [(0, .ref a0), (1, .ref a1), (2, .int (iI v2))] [] σ := by
  intro p l e s m args below meth c D cA ad X0 hr hlk
  have X : Cx p s m args c (adA ad) D cA ad RX0 cX0_valueBelow 6 := X0
  refine g_lconst X (z := 0) dX0_valueBelow_0 (by decide +kernel) ?_
  refine g_lstore_n X (lv' := [(3, .long (lI 0)), (0, .ref a0), (1, .ref a1), (2, .int (iI v2))]) dX0_valueBelow_1 (by decide) rfl ?_
  refine g_iconst X dX0_valueBelow_2 ?_
  refine g_istore X (lv' := [(5, .int (iI 0)), (3, .long (lI 0)), (0, .ref a0), (1, .ref a1), (2, .int (iI v2))]) dX0_valueBelow_3 (by decide) rfl ?_
  exact g_sub (lv' := [(0, .ref a0), (1, .ref a1), (2, .int (iI v2)), (3, .long (lI 0)), (5, .int (iI 0))]) [2, 3, 4, 1, 0] rfl (h p l e s m args below meth c D cA ad X0 hr hlk)
theorem eX0_valueBelow {a0 : Nat} {a1 : Nat} {v2 : Int} {σ : ASt} {Q : Int → ASt → Prop} (ha0 : shp a0 = (0, 0, 0)) (ha1 : shp a1 = (1, 0, 43)) (h : Wx K_X0_valueBelow (QL Q) 5 [(0, .ref a0), (1, .ref a1), (2, .int (iI v2)), (3, .long (lI 0)), (5, .int (iI 0))] [] σ) : EvL K_X0_valueBelow [.ref a0, .ref a1, .int (iI v2)] σ Q := Ev.of rfl (Nat.le_of_ble_eq_true rfl) rfl (bX0_valueBelow_0 ha0 ha1 h)
theorem bX0_valueBelow_5 {a0 : Nat} {a1 : Nat} {v2 : Int} {v3 : Int} {v5 : Int} {σ : ASt} {Q : Int → ASt → Prop} (ha0 : shp a0 = (0, 0, 0)) (ha1 : shp a1 = (1, 0, 43)) (h32v2 : i32 v2) (h32v5 : i32 v5) (h64v3 : i64 v3) (h : ((v2 ≤ v5 → Q v3 σ) ∧ (v5 < v2 → ((43 ≤ v5 → Q v3 σ) ∧ (v5 < 43 → ((43 ≤ v5 → Q v3 σ) ∧ (v5 < 43 → ((0 : Int) ≤ v5 ∧ v5 < 43) ∧ i32 ((gI σ a1 v5)) ∧ Wx K_X0_valueBelow (QL Q) 5 [(0, .ref a0), (1, .ref a1), (2, .int (iI v2)), (3, .long (lI (v3 + ((gI σ a1 v5) * (gL σ (a0 + 12) v5))))), (5, .int (iI (v5 + 1)))] [] σ))))))) : Wx K_X0_valueBelow (QL Q) 5 [(0, .ref a0), (1, .ref a1), (2, .int (iI v2)), (3, .long (lI v3)), (5, .int (iI v5))] [] σ := by
  intro p l e s m args below meth c D cA ad X0 hr hlk
  have X : Cx p s m args c (adA ad) D cA ad RX0 cX0_valueBelow 6 := X0
  refine g_iload X 4 dX0_valueBelow_5 rfl ?_
  refine g_iload_n X 2 dX0_valueBelow_7 rfl ?_
  refine g_icmp_ge X (tgt := 50) dX0_valueBelow_8 (by decide) h32v5 h32v2 (fun c1 => ?_) (fun c1 => ?_)
  · have h := h.1 c1
    refine g_lload_n X 3 dX0_valueBelow_50 rfl ?_
    exact g_lret X hr hlk dX0_valueBelow_51 ⟨_, rfl, h64v3, h⟩
  · have h := h.2 c1
    refine g_iload X 4 dX0_valueBelow_11 rfl ?_
    refine g_aload_n X 1 dX0_valueBelow_13 rfl ?_
    refine g_alen1 X (z := 43) dX0_valueBelow_14 ha1 rfl ?_
    refine g_icmp_ge X (tgt := 50) dX0_valueBelow_15 (by decide) h32v5 (by omega) (fun c2 => ?_) (fun c2 => ?_)
    · have h := h.1 c2
      refine g_lload_n X 3 dX0_valueBelow_50 rfl ?_
      exact g_lret X hr hlk dX0_valueBelow_51 ⟨_, rfl, h64v3, h⟩
    · have h := h.2 c2
      refine g_iload X 4 dX0_valueBelow_18 rfl ?_
      refine g_aload_n X 0 dX0_valueBelow_20 rfl ?_
      refine g_getF X (f := (a0 + 12)) dX0_valueBelow_21 lf_X0_15 ha0 rfl (fn_0_2 ha0) ?_
      refine g_alen2 X (z := 43) dX0_valueBelow_24 (sf_0_2 ha0) rfl ?_
      refine g_icmp_ge X (tgt := 50) dX0_valueBelow_25 (by decide) h32v5 (by omega) (fun c3 => ?_) (fun c3 => ?_)
      · have h := h.1 c3
        refine g_lload_n X 3 dX0_valueBelow_50 rfl ?_
        exact g_lret X hr hlk dX0_valueBelow_51 ⟨_, rfl, h64v3, h⟩
      · have h := h.2 c3
        refine g_lload_n X 3 dX0_valueBelow_28 rfl ?_
        refine g_aload_n X 1 dX0_valueBelow_29 rfl ?_
        refine g_iload X 4 dX0_valueBelow_30 rfl ?_
        obtain ⟨q4, h⟩ := h
        refine g_iald X dX0_valueBelow_32 ha1 q4.1 q4.2 ?_
        obtain ⟨q5, h⟩ := h
        refine g_i2l X dX0_valueBelow_33 q5 ?_
        refine g_aload_n X 0 dX0_valueBelow_34 rfl ?_
        refine g_getF X (f := (a0 + 12)) dX0_valueBelow_35 lf_X0_15 ha0 rfl (fn_0_2 ha0) ?_
        refine g_iload X 4 dX0_valueBelow_38 rfl ?_
        refine g_lald X dX0_valueBelow_40 (sf_0_2 ha0) q4.1 q4.2 ?_
        refine g_lmul X dX0_valueBelow_41 ?_
        refine g_ladd X dX0_valueBelow_42 ?_
        refine g_lstore_n X (lv' := [(3, .long (lI (v3 + ((gI σ a1 v5) * (gL σ (a0 + 12) v5))))), (0, .ref a0), (1, .ref a1), (2, .int (iI v2)), (5, .int (iI v5))]) dX0_valueBelow_43 (by decide) rfl ?_
        refine g_iinc X (x := v5) (lv' := [(5, .int (iI (v5 + 1))), (3, .long (lI (v3 + ((gI σ a1 v5) * (gL σ (a0 + 12) v5))))), (0, .ref a0), (1, .ref a1), (2, .int (iI v2))]) 4 dX0_valueBelow_44 rfl (by decide) rfl ?_
        refine g_goto X (tgt := 5) dX0_valueBelow_47 (by decide) ?_
        exact g_sub (lv' := [(0, .ref a0), (1, .ref a1), (2, .int (iI v2)), (3, .long (lI (v3 + ((gI σ a1 v5) * (gL σ (a0 + 12) v5))))), (5, .int (iI (v5 + 1)))]) [2, 3, 4, 1, 0] rfl (h p l e s m args below meth c D cA ad X0 hr hlk)
theorem bX0_turnAhead_0 {a0 : Nat} {a1 : Nat} {v2 : Int} {σ : ASt} {Q : Int → ASt → Prop} (ha0 : shp a0 = (0, 0, 0)) (ha1 : shp a1 = (1, 0, 43)) (h32v2 : i32 v2) (h : EvZ K_X0_hasPlace [.ref a0, .int (iI v2)] σ (fun s1 => ((v2 ≤ 0 → ((0 : Int) ≤ v2 ∧ v2 < 43) ∧ EvL K_X0_valueBelow [.ref a0, .ref a1, .int (iI v2)] s1 (fun x5 s4 => i32 ((gI s4 a1 v2)) ∧ (((gI s4 a1 v2) ≠ 0 → i64 (((gL s1 (a0 + 12) v2) - x5)) ∧ Q ((gL s1 (a0 + 12) v2) - x5) s4) ∧ ((gI s4 a1 v2) = 0 → EvZ K_X0_hasPlace [.ref a0, .int (iI (v2 + 1))] s4 (fun s10 => ((0 : Int) ≤ (v2 + 1) ∧ (v2 + 1) < 43) ∧ i32 ((gI s10 a1 (v2 + 1))) ∧ i32 ((gI s10 (a0 + 6) (v2 + 1))) ∧ (((gI s10 a1 (v2 + 1)) ≠ (gI s10 (a0 + 6) (v2 + 1)) → i64 (((gL s1 (a0 + 12) v2) - x5)) ∧ Q ((gL s1 (a0 + 12) v2) - x5) s10) ∧ ((gI s10 a1 (v2 + 1)) = (gI s10 (a0 + 6) (v2 + 1)) → i64 ((((gL s1 (a0 + 12) v2) - x5) + (gL s10 (a0 + 12) v2))) ∧ Q (((gL s1 (a0 + 12) v2) - x5) + (gL s10 (a0 + 12) v2)) s10))) (fun s10 => i64 (((gL s1 (a0 + 12) v2) - x5)) ∧ Q ((gL s1 (a0 + 12) v2) - x5) s10))))) ∧ (0 < v2 → ((0 : Int) ≤ v2 ∧ v2 < 43) ∧ i32 ((gI s1 a1 v2)) ∧ i32 ((gI s1 (a0 + 6) v2)) ∧ (((gI s1 a1 v2) ≠ (gI s1 (a0 + 6) v2) → EvL K_X0_valueBelow [.ref a0, .ref a1, .int (iI v2)] s1 (fun x23 s22 => i32 ((gI s22 a1 v2)) ∧ (((gI s22 a1 v2) ≠ 0 → i64 (((gL s1 (a0 + 12) v2) - x23)) ∧ Q ((gL s1 (a0 + 12) v2) - x23) s22) ∧ ((gI s22 a1 v2) = 0 → EvZ K_X0_hasPlace [.ref a0, .int (iI (v2 + 1))] s22 (fun s28 => ((0 : Int) ≤ (v2 + 1) ∧ (v2 + 1) < 43) ∧ i32 ((gI s28 a1 (v2 + 1))) ∧ i32 ((gI s28 (a0 + 6) (v2 + 1))) ∧ (((gI s28 a1 (v2 + 1)) ≠ (gI s28 (a0 + 6) (v2 + 1)) → i64 (((gL s1 (a0 + 12) v2) - x23)) ∧ Q ((gL s1 (a0 + 12) v2) - x23) s28) ∧ ((gI s28 a1 (v2 + 1)) = (gI s28 (a0 + 6) (v2 + 1)) → i64 ((((gL s1 (a0 + 12) v2) - x23) + (gL s28 (a0 + 12) v2))) ∧ Q (((gL s1 (a0 + 12) v2) - x23) + (gL s28 (a0 + 12) v2)) s28))) (fun s28 => i64 (((gL s1 (a0 + 12) v2) - x23)) ∧ Q ((gL s1 (a0 + 12) v2) - x23) s28))))) ∧ ((gI s1 a1 v2) = (gI s1 (a0 + 6) v2) → ((0 : Int) ≤ (v2 - 1) ∧ (v2 - 1) < 43) ∧ EvL K_X0_valueBelow [.ref a0, .ref a1, .int (iI v2)] s1 (fun x38 s37 => i32 ((gI s37 a1 v2)) ∧ (((gI s37 a1 v2) ≠ 0 → i64 (((gL s1 (a0 + 12) (v2 - 1)) - x38)) ∧ Q ((gL s1 (a0 + 12) (v2 - 1)) - x38) s37) ∧ ((gI s37 a1 v2) = 0 → EvZ K_X0_hasPlace [.ref a0, .int (iI (v2 + 1))] s37 (fun s43 => ((0 : Int) ≤ (v2 + 1) ∧ (v2 + 1) < 43) ∧ i32 ((gI s43 a1 (v2 + 1))) ∧ i32 ((gI s43 (a0 + 6) (v2 + 1))) ∧ (((gI s43 a1 (v2 + 1)) ≠ (gI s43 (a0 + 6) (v2 + 1)) → i64 (((gL s1 (a0 + 12) (v2 - 1)) - x38)) ∧ Q ((gL s1 (a0 + 12) (v2 - 1)) - x38) s43) ∧ ((gI s43 a1 (v2 + 1)) = (gI s43 (a0 + 6) (v2 + 1)) → i64 ((((gL s1 (a0 + 12) (v2 - 1)) - x38) + (gL s43 (a0 + 12) v2))) ∧ Q (((gL s1 (a0 + 12) (v2 - 1)) - x38) + (gL s43 (a0 + 12) v2)) s43))) (fun s43 => i64 (((gL s1 (a0 + 12) (v2 - 1)) - x38)) ∧ Q ((gL s1 (a0 + 12) (v2 - 1)) - x38) s43))))))))) (fun s1 => Q (-9223372036854775808) s1)) : Wx K_X0_turnAhead (QL Q) 0 [(0, .ref a0), (1, .ref a1), (2, .int (iI v2))] [] σ := by
  intro p l e s m args below meth c D cA ad X0 hr hlk
  have X : Cx p s m args c (adA ad) D cA ad RX0 cX0_turnAhead 9 := X0
  refine g_aload_n X 0 dX0_turnAhead_0 rfl ?_
  refine g_iload_n X 2 dX0_turnAhead_1 rfl ?_
  refine g_cVZ X (K := K_X0_hasPlace) [.int (iI v2)] [] dX0_turnAhead_2 lv_X0_65 rm_X0_turnAhead_X0_hasPlace ⟨by decide, by decide⟩ adA_id ha0 rfl rfl (Nat.le_of_ble_eq_true rfl) rfl h (fun s1 h => ?_) (fun s1 h => ?_)
  · skip
    refine g_if_ne X (tgt := 12) dX0_turnAhead_5 (by decide) (by omega) (fun _ => ?_) (fun hc => absurd hc (by decide))
    refine g_iload_n X 2 dX0_turnAhead_12 rfl ?_
    refine g_if_le X (tgt := 32) dX0_turnAhead_13 (by decide) h32v2 (fun c2 => ?_) (fun c2 => ?_)
    · have h := h.1 c2
      refine g_iconst X dX0_turnAhead_32 ?_
      refine g_istore_n X (lv' := [(3, .int (iI 0)), (0, .ref a0), (1, .ref a1), (2, .int (iI v2))]) dX0_turnAhead_33 (by decide) rfl ?_
      refine g_iload_n X 0 dX0_turnAhead_34 rfl ?_
      refine g_if_eq X (tgt := 49) dX0_turnAhead_35 (by decide) (by omega) (fun _ => ?_) (fun hc => absurd hc (by decide))
      refine g_aload_n X 1 dX0_turnAhead_49 rfl ?_
      refine g_getF X (f := (a0 + 12)) dX0_turnAhead_50 lf_X0_15 ha0 rfl (fn_0_2 ha0) ?_
      refine g_iload_n X 3 dX0_turnAhead_53 rfl ?_
      obtain ⟨q3, h⟩ := h
      refine g_lald X dX0_turnAhead_54 (sf_0_2 ha0) q3.1 q3.2 ?_
      refine g_lstore X (lv' := [(4, .long (lI (gL s1 (a0 + 12) v2))), (3, .int (iI 0)), (0, .ref a0), (1, .ref a1), (2, .int (iI v2))]) dX0_turnAhead_55 (by decide) rfl ?_
      refine g_lload X 0 dX0_turnAhead_57 rfl ?_
      refine g_aload_n X 2 dX0_turnAhead_59 rfl ?_
      refine g_aload_n X 3 dX0_turnAhead_60 rfl ?_
      refine g_iload_n X 4 dX0_turnAhead_61 rfl ?_
      refine g_cVL X (K := K_X0_valueBelow) [.ref a1, .int (iI v2)] [.long (lI (gL s1 (a0 + 12) v2))] dX0_turnAhead_62 lv_X0_61 rm_X0_turnAhead_X0_valueBelow ⟨by decide, by decide⟩ adA_id ha0 rfl rfl (Nat.le_of_ble_eq_true rfl) rfl h (fun x5 s4 q6 h => ?_)
      refine g_lsub X dX0_turnAhead_65 ?_
      refine g_lstore X (lv' := [(6, .long (lI ((gL s1 (a0 + 12) v2) - x5))), (4, .long (lI (gL s1 (a0 + 12) v2))), (3, .int (iI 0)), (0, .ref a0), (1, .ref a1), (2, .int (iI v2))]) dX0_turnAhead_66 (by decide) rfl ?_
      refine g_aload_n X 4 dX0_turnAhead_68 rfl ?_
      refine g_iload_n X 5 dX0_turnAhead_69 rfl ?_
      refine g_iald X dX0_turnAhead_70 ha1 q3.1 q3.2 ?_
      obtain ⟨q7, h⟩ := h
      refine g_if_ne X (tgt := 104) dX0_turnAhead_71 (by decide) q7 (fun c8 => ?_) (fun c8 => ?_)
      · have h := h.1 c8
        refine g_iconst X dX0_turnAhead_104 ?_
        refine g_istore X (lv' := [(8, .int (iI 0)), (6, .long (lI ((gL s1 (a0 + 12) v2) - x5))), (4, .long (lI (gL s1 (a0 + 12) v2))), (3, .int (iI 0)), (0, .ref a0), (1, .ref a1), (2, .int (iI v2))]) dX0_turnAhead_105 (by decide) rfl ?_
        refine g_iload X 0 dX0_turnAhead_107 rfl ?_
        refine g_if_eq X (tgt := 124) dX0_turnAhead_109 (by decide) (by omega) (fun _ => ?_) (fun hc => absurd hc (by decide))
        refine g_lload X 1 dX0_turnAhead_124 rfl ?_
        obtain ⟨q9, h⟩ := h
        exact g_lret X hr hlk dX0_turnAhead_126 ⟨_, rfl, q9, h⟩
      · have h := h.2 c8
        refine g_aload_n X 3 dX0_turnAhead_74 rfl ?_
        refine g_iload_n X 5 dX0_turnAhead_75 rfl ?_
        refine g_iconst X dX0_turnAhead_76 ?_
        refine g_iadd X dX0_turnAhead_77 ?_
        refine g_cVZ X (K := K_X0_hasPlace) [.int (iI (v2 + 1))] [] dX0_turnAhead_78 lv_X0_65 rm_X0_turnAhead_X0_hasPlace ⟨by decide, by decide⟩ adA_id ha0 rfl rfl (Nat.le_of_ble_eq_true rfl) rfl h (fun s10 h => ?_) (fun s10 h => ?_)
        · skip
          refine g_if_eq X (tgt := 104) dX0_turnAhead_81 (by decide) (by omega) (fun hc => absurd hc (by decide)) (fun _ => ?_)
          refine g_aload_n X 4 dX0_turnAhead_84 rfl ?_
          refine g_iload_n X 5 dX0_turnAhead_85 rfl ?_
          refine g_iconst X dX0_turnAhead_86 ?_
          refine g_iadd X dX0_turnAhead_87 ?_
          obtain ⟨q11, h⟩ := h
          refine g_iald X dX0_turnAhead_88 ha1 q11.1 q11.2 ?_
          refine g_aload_n X 3 dX0_turnAhead_89 rfl ?_
          refine g_getF X (f := (a0 + 6)) dX0_turnAhead_90 lf_X0_9 ha0 rfl (fn_0_1 ha0) ?_
          refine g_iload_n X 5 dX0_turnAhead_93 rfl ?_
          refine g_iconst X dX0_turnAhead_94 ?_
          refine g_iadd X dX0_turnAhead_95 ?_
          refine g_iald X dX0_turnAhead_96 (sf_0_1 ha0) q11.1 q11.2 ?_
          obtain ⟨q12, h⟩ := h
          obtain ⟨q13, h⟩ := h
          refine g_icmp_ne X (tgt := 104) dX0_turnAhead_97 (by decide) q12 q13 (fun c14 => ?_) (fun c14 => ?_)
          · have h := h.1 c14
            refine g_iconst X dX0_turnAhead_104 ?_
            refine g_istore X (lv' := [(8, .int (iI 0)), (6, .long (lI ((gL s1 (a0 + 12) v2) - x5))), (4, .long (lI (gL s1 (a0 + 12) v2))), (3, .int (iI 0)), (0, .ref a0), (1, .ref a1), (2, .int (iI v2))]) dX0_turnAhead_105 (by decide) rfl ?_
            refine g_iload X 0 dX0_turnAhead_107 rfl ?_
            refine g_if_eq X (tgt := 124) dX0_turnAhead_109 (by decide) (by omega) (fun _ => ?_) (fun hc => absurd hc (by decide))
            refine g_lload X 1 dX0_turnAhead_124 rfl ?_
            obtain ⟨q15, h⟩ := h
            exact g_lret X hr hlk dX0_turnAhead_126 ⟨_, rfl, q15, h⟩
          · have h := h.2 c14
            refine g_iconst X dX0_turnAhead_100 ?_
            refine g_goto X (tgt := 105) dX0_turnAhead_101 (by decide) ?_
            refine g_istore X (lv' := [(8, .int (iI 1)), (6, .long (lI ((gL s1 (a0 + 12) v2) - x5))), (4, .long (lI (gL s1 (a0 + 12) v2))), (3, .int (iI 0)), (0, .ref a0), (1, .ref a1), (2, .int (iI v2))]) dX0_turnAhead_105 (by decide) rfl ?_
            refine g_iload X 0 dX0_turnAhead_107 rfl ?_
            refine g_if_eq X (tgt := 124) dX0_turnAhead_109 (by decide) (by omega) (fun hc => absurd hc (by decide)) (fun _ => ?_)
            refine g_lload X 1 dX0_turnAhead_112 rfl ?_
            refine g_aload_n X 4 dX0_turnAhead_114 rfl ?_
            refine g_getF X (f := (a0 + 12)) dX0_turnAhead_115 lf_X0_15 ha0 rfl (fn_0_2 ha0) ?_
            refine g_iload_n X 6 dX0_turnAhead_118 rfl ?_
            refine g_lald X dX0_turnAhead_119 (sf_0_2 ha0) q3.1 q3.2 ?_
            refine g_ladd X dX0_turnAhead_120 ?_
            refine g_goto X (tgt := 126) dX0_turnAhead_121 (by decide) ?_
            obtain ⟨q16, h⟩ := h
            exact g_lret X hr hlk dX0_turnAhead_126 ⟨_, rfl, q16, h⟩
        · skip
          refine g_if_eq X (tgt := 104) dX0_turnAhead_81 (by decide) (by omega) (fun _ => ?_) (fun hc => absurd hc (by decide))
          refine g_iconst X dX0_turnAhead_104 ?_
          refine g_istore X (lv' := [(8, .int (iI 0)), (6, .long (lI ((gL s1 (a0 + 12) v2) - x5))), (4, .long (lI (gL s1 (a0 + 12) v2))), (3, .int (iI 0)), (0, .ref a0), (1, .ref a1), (2, .int (iI v2))]) dX0_turnAhead_105 (by decide) rfl ?_
          refine g_iload X 0 dX0_turnAhead_107 rfl ?_
          refine g_if_eq X (tgt := 124) dX0_turnAhead_109 (by decide) (by omega) (fun _ => ?_) (fun hc => absurd hc (by decide))
          refine g_lload X 1 dX0_turnAhead_124 rfl ?_
          obtain ⟨q17, h⟩ := h
          exact g_lret X hr hlk dX0_turnAhead_126 ⟨_, rfl, q17, h⟩
    · have h := h.2 c2
      refine g_aload_n X 1 dX0_turnAhead_16 rfl ?_
      refine g_iload_n X 2 dX0_turnAhead_17 rfl ?_
      obtain ⟨q18, h⟩ := h
      refine g_iald X dX0_turnAhead_18 ha1 q18.1 q18.2 ?_
      refine g_aload_n X 0 dX0_turnAhead_19 rfl ?_
      refine g_getF X (f := (a0 + 6)) dX0_turnAhead_20 lf_X0_9 ha0 rfl (fn_0_1 ha0) ?_
      refine g_iload_n X 2 dX0_turnAhead_23 rfl ?_
      refine g_iald X dX0_turnAhead_24 (sf_0_1 ha0) q18.1 q18.2 ?_
      obtain ⟨q19, h⟩ := h
      obtain ⟨q20, h⟩ := h
      refine g_icmp_ne X (tgt := 32) dX0_turnAhead_25 (by decide) q19 q20 (fun c21 => ?_) (fun c21 => ?_)
      · have h := h.1 c21
        refine g_iconst X dX0_turnAhead_32 ?_
        refine g_istore_n X (lv' := [(3, .int (iI 0)), (0, .ref a0), (1, .ref a1), (2, .int (iI v2))]) dX0_turnAhead_33 (by decide) rfl ?_
        refine g_iload_n X 0 dX0_turnAhead_34 rfl ?_
        refine g_if_eq X (tgt := 49) dX0_turnAhead_35 (by decide) (by omega) (fun _ => ?_) (fun hc => absurd hc (by decide))
        refine g_aload_n X 1 dX0_turnAhead_49 rfl ?_
        refine g_getF X (f := (a0 + 12)) dX0_turnAhead_50 lf_X0_15 ha0 rfl (fn_0_2 ha0) ?_
        refine g_iload_n X 3 dX0_turnAhead_53 rfl ?_
        refine g_lald X dX0_turnAhead_54 (sf_0_2 ha0) q18.1 q18.2 ?_
        refine g_lstore X (lv' := [(4, .long (lI (gL s1 (a0 + 12) v2))), (3, .int (iI 0)), (0, .ref a0), (1, .ref a1), (2, .int (iI v2))]) dX0_turnAhead_55 (by decide) rfl ?_
        refine g_lload X 0 dX0_turnAhead_57 rfl ?_
        refine g_aload_n X 2 dX0_turnAhead_59 rfl ?_
        refine g_aload_n X 3 dX0_turnAhead_60 rfl ?_
        refine g_iload_n X 4 dX0_turnAhead_61 rfl ?_
        refine g_cVL X (K := K_X0_valueBelow) [.ref a1, .int (iI v2)] [.long (lI (gL s1 (a0 + 12) v2))] dX0_turnAhead_62 lv_X0_61 rm_X0_turnAhead_X0_valueBelow ⟨by decide, by decide⟩ adA_id ha0 rfl rfl (Nat.le_of_ble_eq_true rfl) rfl h (fun x23 s22 q24 h => ?_)
        refine g_lsub X dX0_turnAhead_65 ?_
        refine g_lstore X (lv' := [(6, .long (lI ((gL s1 (a0 + 12) v2) - x23))), (4, .long (lI (gL s1 (a0 + 12) v2))), (3, .int (iI 0)), (0, .ref a0), (1, .ref a1), (2, .int (iI v2))]) dX0_turnAhead_66 (by decide) rfl ?_
        refine g_aload_n X 4 dX0_turnAhead_68 rfl ?_
        refine g_iload_n X 5 dX0_turnAhead_69 rfl ?_
        refine g_iald X dX0_turnAhead_70 ha1 q18.1 q18.2 ?_
        obtain ⟨q25, h⟩ := h
        refine g_if_ne X (tgt := 104) dX0_turnAhead_71 (by decide) q25 (fun c26 => ?_) (fun c26 => ?_)
        · have h := h.1 c26
          refine g_iconst X dX0_turnAhead_104 ?_
          refine g_istore X (lv' := [(8, .int (iI 0)), (6, .long (lI ((gL s1 (a0 + 12) v2) - x23))), (4, .long (lI (gL s1 (a0 + 12) v2))), (3, .int (iI 0)), (0, .ref a0), (1, .ref a1), (2, .int (iI v2))]) dX0_turnAhead_105 (by decide) rfl ?_
          refine g_iload X 0 dX0_turnAhead_107 rfl ?_
          refine g_if_eq X (tgt := 124) dX0_turnAhead_109 (by decide) (by omega) (fun _ => ?_) (fun hc => absurd hc (by decide))
          refine g_lload X 1 dX0_turnAhead_124 rfl ?_
          obtain ⟨q27, h⟩ := h
          exact g_lret X hr hlk dX0_turnAhead_126 ⟨_, rfl, q27, h⟩
        · have h := h.2 c26
          refine g_aload_n X 3 dX0_turnAhead_74 rfl ?_
          refine g_iload_n X 5 dX0_turnAhead_75 rfl ?_
          refine g_iconst X dX0_turnAhead_76 ?_
          refine g_iadd X dX0_turnAhead_77 ?_
          refine g_cVZ X (K := K_X0_hasPlace) [.int (iI (v2 + 1))] [] dX0_turnAhead_78 lv_X0_65 rm_X0_turnAhead_X0_hasPlace ⟨by decide, by decide⟩ adA_id ha0 rfl rfl (Nat.le_of_ble_eq_true rfl) rfl h (fun s28 h => ?_) (fun s28 h => ?_)
          · skip
            refine g_if_eq X (tgt := 104) dX0_turnAhead_81 (by decide) (by omega) (fun hc => absurd hc (by decide)) (fun _ => ?_)
            refine g_aload_n X 4 dX0_turnAhead_84 rfl ?_
            refine g_iload_n X 5 dX0_turnAhead_85 rfl ?_
            refine g_iconst X dX0_turnAhead_86 ?_
            refine g_iadd X dX0_turnAhead_87 ?_
            obtain ⟨q29, h⟩ := h
            refine g_iald X dX0_turnAhead_88 ha1 q29.1 q29.2 ?_
            refine g_aload_n X 3 dX0_turnAhead_89 rfl ?_
            refine g_getF X (f := (a0 + 6)) dX0_turnAhead_90 lf_X0_9 ha0 rfl (fn_0_1 ha0) ?_
            refine g_iload_n X 5 dX0_turnAhead_93 rfl ?_
            refine g_iconst X dX0_turnAhead_94 ?_
            refine g_iadd X dX0_turnAhead_95 ?_
            refine g_iald X dX0_turnAhead_96 (sf_0_1 ha0) q29.1 q29.2 ?_
            obtain ⟨q30, h⟩ := h
            obtain ⟨q31, h⟩ := h
            refine g_icmp_ne X (tgt := 104) dX0_turnAhead_97 (by decide) q30 q31 (fun c32 => ?_) (fun c32 => ?_)
            · have h := h.1 c32
              refine g_iconst X dX0_turnAhead_104 ?_
              refine g_istore X (lv' := [(8, .int (iI 0)), (6, .long (lI ((gL s1 (a0 + 12) v2) - x23))), (4, .long (lI (gL s1 (a0 + 12) v2))), (3, .int (iI 0)), (0, .ref a0), (1, .ref a1), (2, .int (iI v2))]) dX0_turnAhead_105 (by decide) rfl ?_
              refine g_iload X 0 dX0_turnAhead_107 rfl ?_
              refine g_if_eq X (tgt := 124) dX0_turnAhead_109 (by decide) (by omega) (fun _ => ?_) (fun hc => absurd hc (by decide))
              refine g_lload X 1 dX0_turnAhead_124 rfl ?_
              obtain ⟨q33, h⟩ := h
              exact g_lret X hr hlk dX0_turnAhead_126 ⟨_, rfl, q33, h⟩
            · have h := h.2 c32
              refine g_iconst X dX0_turnAhead_100 ?_
              refine g_goto X (tgt := 105) dX0_turnAhead_101 (by decide) ?_
              refine g_istore X (lv' := [(8, .int (iI 1)), (6, .long (lI ((gL s1 (a0 + 12) v2) - x23))), (4, .long (lI (gL s1 (a0 + 12) v2))), (3, .int (iI 0)), (0, .ref a0), (1, .ref a1), (2, .int (iI v2))]) dX0_turnAhead_105 (by decide) rfl ?_
              refine g_iload X 0 dX0_turnAhead_107 rfl ?_
              refine g_if_eq X (tgt := 124) dX0_turnAhead_109 (by decide) (by omega) (fun hc => absurd hc (by decide)) (fun _ => ?_)
              refine g_lload X 1 dX0_turnAhead_112 rfl ?_
              refine g_aload_n X 4 dX0_turnAhead_114 rfl ?_
              refine g_getF X (f := (a0 + 12)) dX0_turnAhead_115 lf_X0_15 ha0 rfl (fn_0_2 ha0) ?_
              refine g_iload_n X 6 dX0_turnAhead_118 rfl ?_
              refine g_lald X dX0_turnAhead_119 (sf_0_2 ha0) q18.1 q18.2 ?_
              refine g_ladd X dX0_turnAhead_120 ?_
              refine g_goto X (tgt := 126) dX0_turnAhead_121 (by decide) ?_
              obtain ⟨q34, h⟩ := h
              exact g_lret X hr hlk dX0_turnAhead_126 ⟨_, rfl, q34, h⟩
          · skip
            refine g_if_eq X (tgt := 104) dX0_turnAhead_81 (by decide) (by omega) (fun _ => ?_) (fun hc => absurd hc (by decide))
            refine g_iconst X dX0_turnAhead_104 ?_
            refine g_istore X (lv' := [(8, .int (iI 0)), (6, .long (lI ((gL s1 (a0 + 12) v2) - x23))), (4, .long (lI (gL s1 (a0 + 12) v2))), (3, .int (iI 0)), (0, .ref a0), (1, .ref a1), (2, .int (iI v2))]) dX0_turnAhead_105 (by decide) rfl ?_
            refine g_iload X 0 dX0_turnAhead_107 rfl ?_
            refine g_if_eq X (tgt := 124) dX0_turnAhead_109 (by decide) (by omega) (fun _ => ?_) (fun hc => absurd hc (by decide))
            refine g_lload X 1 dX0_turnAhead_124 rfl ?_
            obtain ⟨q35, h⟩ := h
            exact g_lret X hr hlk dX0_turnAhead_126 ⟨_, rfl, q35, h⟩
      · have h := h.2 c21
        refine g_iconst X dX0_turnAhead_28 ?_
        refine g_goto X (tgt := 33) dX0_turnAhead_29 (by decide) ?_
        refine g_istore_n X (lv' := [(3, .int (iI 1)), (0, .ref a0), (1, .ref a1), (2, .int (iI v2))]) dX0_turnAhead_33 (by decide) rfl ?_
        refine g_iload_n X 0 dX0_turnAhead_34 rfl ?_
        refine g_if_eq X (tgt := 49) dX0_turnAhead_35 (by decide) (by omega) (fun hc => absurd hc (by decide)) (fun _ => ?_)
        refine g_aload_n X 1 dX0_turnAhead_38 rfl ?_
        refine g_getF X (f := (a0 + 12)) dX0_turnAhead_39 lf_X0_15 ha0 rfl (fn_0_2 ha0) ?_
        refine g_iload_n X 3 dX0_turnAhead_42 rfl ?_
        refine g_iconst X dX0_turnAhead_43 ?_
        refine g_isub X dX0_turnAhead_44 ?_
        obtain ⟨q36, h⟩ := h
        refine g_lald X dX0_turnAhead_45 (sf_0_2 ha0) q36.1 q36.2 ?_
        refine g_goto X (tgt := 55) dX0_turnAhead_46 (by decide) ?_
        refine g_lstore X (lv' := [(4, .long (lI (gL s1 (a0 + 12) (v2 - 1)))), (3, .int (iI 1)), (0, .ref a0), (1, .ref a1), (2, .int (iI v2))]) dX0_turnAhead_55 (by decide) rfl ?_
        refine g_lload X 0 dX0_turnAhead_57 rfl ?_
        refine g_aload_n X 2 dX0_turnAhead_59 rfl ?_
        refine g_aload_n X 3 dX0_turnAhead_60 rfl ?_
        refine g_iload_n X 4 dX0_turnAhead_61 rfl ?_
        refine g_cVL X (K := K_X0_valueBelow) [.ref a1, .int (iI v2)] [.long (lI (gL s1 (a0 + 12) (v2 - 1)))] dX0_turnAhead_62 lv_X0_61 rm_X0_turnAhead_X0_valueBelow ⟨by decide, by decide⟩ adA_id ha0 rfl rfl (Nat.le_of_ble_eq_true rfl) rfl h (fun x38 s37 q39 h => ?_)
        refine g_lsub X dX0_turnAhead_65 ?_
        refine g_lstore X (lv' := [(6, .long (lI ((gL s1 (a0 + 12) (v2 - 1)) - x38))), (4, .long (lI (gL s1 (a0 + 12) (v2 - 1)))), (3, .int (iI 1)), (0, .ref a0), (1, .ref a1), (2, .int (iI v2))]) dX0_turnAhead_66 (by decide) rfl ?_
        refine g_aload_n X 4 dX0_turnAhead_68 rfl ?_
        refine g_iload_n X 5 dX0_turnAhead_69 rfl ?_
        refine g_iald X dX0_turnAhead_70 ha1 q18.1 q18.2 ?_
        obtain ⟨q40, h⟩ := h
        refine g_if_ne X (tgt := 104) dX0_turnAhead_71 (by decide) q40 (fun c41 => ?_) (fun c41 => ?_)
        · have h := h.1 c41
          refine g_iconst X dX0_turnAhead_104 ?_
          refine g_istore X (lv' := [(8, .int (iI 0)), (6, .long (lI ((gL s1 (a0 + 12) (v2 - 1)) - x38))), (4, .long (lI (gL s1 (a0 + 12) (v2 - 1)))), (3, .int (iI 1)), (0, .ref a0), (1, .ref a1), (2, .int (iI v2))]) dX0_turnAhead_105 (by decide) rfl ?_
          refine g_iload X 0 dX0_turnAhead_107 rfl ?_
          refine g_if_eq X (tgt := 124) dX0_turnAhead_109 (by decide) (by omega) (fun _ => ?_) (fun hc => absurd hc (by decide))
          refine g_lload X 1 dX0_turnAhead_124 rfl ?_
          obtain ⟨q42, h⟩ := h
          exact g_lret X hr hlk dX0_turnAhead_126 ⟨_, rfl, q42, h⟩
        · have h := h.2 c41
          refine g_aload_n X 3 dX0_turnAhead_74 rfl ?_
          refine g_iload_n X 5 dX0_turnAhead_75 rfl ?_
          refine g_iconst X dX0_turnAhead_76 ?_
          refine g_iadd X dX0_turnAhead_77 ?_
          refine g_cVZ X (K := K_X0_hasPlace) [.int (iI (v2 + 1))] [] dX0_turnAhead_78 lv_X0_65 rm_X0_turnAhead_X0_hasPlace ⟨by decide, by decide⟩ adA_id ha0 rfl rfl (Nat.le_of_ble_eq_true rfl) rfl h (fun s43 h => ?_) (fun s43 h => ?_)
          · skip
            refine g_if_eq X (tgt := 104) dX0_turnAhead_81 (by decide) (by omega) (fun hc => absurd hc (by decide)) (fun _ => ?_)
            refine g_aload_n X 4 dX0_turnAhead_84 rfl ?_
            refine g_iload_n X 5 dX0_turnAhead_85 rfl ?_
            refine g_iconst X dX0_turnAhead_86 ?_
            refine g_iadd X dX0_turnAhead_87 ?_
            obtain ⟨q44, h⟩ := h
            refine g_iald X dX0_turnAhead_88 ha1 q44.1 q44.2 ?_
            refine g_aload_n X 3 dX0_turnAhead_89 rfl ?_
            refine g_getF X (f := (a0 + 6)) dX0_turnAhead_90 lf_X0_9 ha0 rfl (fn_0_1 ha0) ?_
            refine g_iload_n X 5 dX0_turnAhead_93 rfl ?_
            refine g_iconst X dX0_turnAhead_94 ?_
            refine g_iadd X dX0_turnAhead_95 ?_
            refine g_iald X dX0_turnAhead_96 (sf_0_1 ha0) q44.1 q44.2 ?_
            obtain ⟨q45, h⟩ := h
            obtain ⟨q46, h⟩ := h
            refine g_icmp_ne X (tgt := 104) dX0_turnAhead_97 (by decide) q45 q46 (fun c47 => ?_) (fun c47 => ?_)
            · have h := h.1 c47
              refine g_iconst X dX0_turnAhead_104 ?_
              refine g_istore X (lv' := [(8, .int (iI 0)), (6, .long (lI ((gL s1 (a0 + 12) (v2 - 1)) - x38))), (4, .long (lI (gL s1 (a0 + 12) (v2 - 1)))), (3, .int (iI 1)), (0, .ref a0), (1, .ref a1), (2, .int (iI v2))]) dX0_turnAhead_105 (by decide) rfl ?_
              refine g_iload X 0 dX0_turnAhead_107 rfl ?_
              refine g_if_eq X (tgt := 124) dX0_turnAhead_109 (by decide) (by omega) (fun _ => ?_) (fun hc => absurd hc (by decide))
              refine g_lload X 1 dX0_turnAhead_124 rfl ?_
              obtain ⟨q48, h⟩ := h
              exact g_lret X hr hlk dX0_turnAhead_126 ⟨_, rfl, q48, h⟩
            · have h := h.2 c47
              refine g_iconst X dX0_turnAhead_100 ?_
              refine g_goto X (tgt := 105) dX0_turnAhead_101 (by decide) ?_
              refine g_istore X (lv' := [(8, .int (iI 1)), (6, .long (lI ((gL s1 (a0 + 12) (v2 - 1)) - x38))), (4, .long (lI (gL s1 (a0 + 12) (v2 - 1)))), (3, .int (iI 1)), (0, .ref a0), (1, .ref a1), (2, .int (iI v2))]) dX0_turnAhead_105 (by decide) rfl ?_
              refine g_iload X 0 dX0_turnAhead_107 rfl ?_
              refine g_if_eq X (tgt := 124) dX0_turnAhead_109 (by decide) (by omega) (fun hc => absurd hc (by decide)) (fun _ => ?_)
              refine g_lload X 1 dX0_turnAhead_112 rfl ?_
              refine g_aload_n X 4 dX0_turnAhead_114 rfl ?_
              refine g_getF X (f := (a0 + 12)) dX0_turnAhead_115 lf_X0_15 ha0 rfl (fn_0_2 ha0) ?_
              refine g_iload_n X 6 dX0_turnAhead_118 rfl ?_
              refine g_lald X dX0_turnAhead_119 (sf_0_2 ha0) q18.1 q18.2 ?_
              refine g_ladd X dX0_turnAhead_120 ?_
              refine g_goto X (tgt := 126) dX0_turnAhead_121 (by decide) ?_
              obtain ⟨q49, h⟩ := h
              exact g_lret X hr hlk dX0_turnAhead_126 ⟨_, rfl, q49, h⟩
          · skip
            refine g_if_eq X (tgt := 104) dX0_turnAhead_81 (by decide) (by omega) (fun _ => ?_) (fun hc => absurd hc (by decide))
            refine g_iconst X dX0_turnAhead_104 ?_
            refine g_istore X (lv' := [(8, .int (iI 0)), (6, .long (lI ((gL s1 (a0 + 12) (v2 - 1)) - x38))), (4, .long (lI (gL s1 (a0 + 12) (v2 - 1)))), (3, .int (iI 1)), (0, .ref a0), (1, .ref a1), (2, .int (iI v2))]) dX0_turnAhead_105 (by decide) rfl ?_
            refine g_iload X 0 dX0_turnAhead_107 rfl ?_
            refine g_if_eq X (tgt := 124) dX0_turnAhead_109 (by decide) (by omega) (fun _ => ?_) (fun hc => absurd hc (by decide))
            refine g_lload X 1 dX0_turnAhead_124 rfl ?_
            obtain ⟨q50, h⟩ := h
            exact g_lret X hr hlk dX0_turnAhead_126 ⟨_, rfl, q50, h⟩
  · skip
    refine g_if_ne X (tgt := 12) dX0_turnAhead_5 (by decide) (by omega) (fun hc => absurd hc (by decide)) (fun _ => ?_)
    refine g_ldc2 X (z := (-9223372036854775808)) dX0_turnAhead_8 lc_X0_88 (by decide +kernel) ?_
    exact g_lret X hr hlk dX0_turnAhead_11 ⟨_, rfl, (by omega), h⟩
theorem eX0_turnAhead {a0 : Nat} {a1 : Nat} {v2 : Int} {σ : ASt} {Q : Int → ASt → Prop} (ha0 : shp a0 = (0, 0, 0)) (ha1 : shp a1 = (1, 0, 43)) (h32v2 : i32 v2) (h : EvZ K_X0_hasPlace [.ref a0, .int (iI v2)] σ (fun s1 => ((v2 ≤ 0 → ((0 : Int) ≤ v2 ∧ v2 < 43) ∧ EvL K_X0_valueBelow [.ref a0, .ref a1, .int (iI v2)] s1 (fun x5 s4 => i32 ((gI s4 a1 v2)) ∧ (((gI s4 a1 v2) ≠ 0 → i64 (((gL s1 (a0 + 12) v2) - x5)) ∧ Q ((gL s1 (a0 + 12) v2) - x5) s4) ∧ ((gI s4 a1 v2) = 0 → EvZ K_X0_hasPlace [.ref a0, .int (iI (v2 + 1))] s4 (fun s10 => ((0 : Int) ≤ (v2 + 1) ∧ (v2 + 1) < 43) ∧ i32 ((gI s10 a1 (v2 + 1))) ∧ i32 ((gI s10 (a0 + 6) (v2 + 1))) ∧ (((gI s10 a1 (v2 + 1)) ≠ (gI s10 (a0 + 6) (v2 + 1)) → i64 (((gL s1 (a0 + 12) v2) - x5)) ∧ Q ((gL s1 (a0 + 12) v2) - x5) s10) ∧ ((gI s10 a1 (v2 + 1)) = (gI s10 (a0 + 6) (v2 + 1)) → i64 ((((gL s1 (a0 + 12) v2) - x5) + (gL s10 (a0 + 12) v2))) ∧ Q (((gL s1 (a0 + 12) v2) - x5) + (gL s10 (a0 + 12) v2)) s10))) (fun s10 => i64 (((gL s1 (a0 + 12) v2) - x5)) ∧ Q ((gL s1 (a0 + 12) v2) - x5) s10))))) ∧ (0 < v2 → ((0 : Int) ≤ v2 ∧ v2 < 43) ∧ i32 ((gI s1 a1 v2)) ∧ i32 ((gI s1 (a0 + 6) v2)) ∧ (((gI s1 a1 v2) ≠ (gI s1 (a0 + 6) v2) → EvL K_X0_valueBelow [.ref a0, .ref a1, .int (iI v2)] s1 (fun x23 s22 => i32 ((gI s22 a1 v2)) ∧ (((gI s22 a1 v2) ≠ 0 → i64 (((gL s1 (a0 + 12) v2) - x23)) ∧ Q ((gL s1 (a0 + 12) v2) - x23) s22) ∧ ((gI s22 a1 v2) = 0 → EvZ K_X0_hasPlace [.ref a0, .int (iI (v2 + 1))] s22 (fun s28 => ((0 : Int) ≤ (v2 + 1) ∧ (v2 + 1) < 43) ∧ i32 ((gI s28 a1 (v2 + 1))) ∧ i32 ((gI s28 (a0 + 6) (v2 + 1))) ∧ (((gI s28 a1 (v2 + 1)) ≠ (gI s28 (a0 + 6) (v2 + 1)) → i64 (((gL s1 (a0 + 12) v2) - x23)) ∧ Q ((gL s1 (a0 + 12) v2) - x23) s28) ∧ ((gI s28 a1 (v2 + 1)) = (gI s28 (a0 + 6) (v2 + 1)) → i64 ((((gL s1 (a0 + 12) v2) - x23) + (gL s28 (a0 + 12) v2))) ∧ Q (((gL s1 (a0 + 12) v2) - x23) + (gL s28 (a0 + 12) v2)) s28))) (fun s28 => i64 (((gL s1 (a0 + 12) v2) - x23)) ∧ Q ((gL s1 (a0 + 12) v2) - x23) s28))))) ∧ ((gI s1 a1 v2) = (gI s1 (a0 + 6) v2) → ((0 : Int) ≤ (v2 - 1) ∧ (v2 - 1) < 43) ∧ EvL K_X0_valueBelow [.ref a0, .ref a1, .int (iI v2)] s1 (fun x38 s37 => i32 ((gI s37 a1 v2)) ∧ (((gI s37 a1 v2) ≠ 0 → i64 (((gL s1 (a0 + 12) (v2 - 1)) - x38)) ∧ Q ((gL s1 (a0 + 12) (v2 - 1)) - x38) s37) ∧ ((gI s37 a1 v2) = 0 → EvZ K_X0_hasPlace [.ref a0, .int (iI (v2 + 1))] s37 (fun s43 => ((0 : Int) ≤ (v2 + 1) ∧ (v2 + 1) < 43) ∧ i32 ((gI s43 a1 (v2 + 1))) ∧ i32 ((gI s43 (a0 + 6) (v2 + 1))) ∧ (((gI s43 a1 (v2 + 1)) ≠ (gI s43 (a0 + 6) (v2 + 1)) → i64 (((gL s1 (a0 + 12) (v2 - 1)) - x38)) ∧ Q ((gL s1 (a0 + 12) (v2 - 1)) - x38) s43) ∧ ((gI s43 a1 (v2 + 1)) = (gI s43 (a0 + 6) (v2 + 1)) → i64 ((((gL s1 (a0 + 12) (v2 - 1)) - x38) + (gL s43 (a0 + 12) v2))) ∧ Q (((gL s1 (a0 + 12) (v2 - 1)) - x38) + (gL s43 (a0 + 12) v2)) s43))) (fun s43 => i64 (((gL s1 (a0 + 12) (v2 - 1)) - x38)) ∧ Q ((gL s1 (a0 + 12) (v2 - 1)) - x38) s43))))))))) (fun s1 => Q (-9223372036854775808) s1)) : EvL K_X0_turnAhead [.ref a0, .ref a1, .int (iI v2)] σ Q := Ev.of rfl (Nat.le_of_ble_eq_true rfl) rfl (bX0_turnAhead_0 ha0 ha1 h32v2 h)
theorem bX0_valueOf_0 {a0 : Nat} {a1 : Nat} {σ : ASt} {Q : Int → ASt → Prop} (ha0 : shp a0 = (0, 0, 0)) (ha1 : shp a1 = (1, 0, 43)) (h : EvL K_X0_valueBelow [.ref a0, .ref a1, .int (iI (gI σ a0 4))] σ (fun x2 s1 => Q x2 s1)) : Wx K_X0_valueOf (QL Q) 0 [(0, .ref a0), (1, .ref a1)] [] σ := by
  intro p l e s m args below meth c D cA ad X0 hr hlk
  have X : Cx p s m args c (adA ad) D cA ad RX0 cX0_valueOf 2 := X0
  refine g_aload_n X 0 dX0_valueOf_0 rfl ?_
  refine g_aload_n X 1 dX0_valueOf_1 rfl ?_
  refine g_aload_n X 0 dX0_valueOf_2 rfl ?_
  refine g_getI X (z := 4) dX0_valueOf_3 lf_X0_48 ha0 rfl rfl ?_
  refine g_cVL X (K := K_X0_valueBelow) [.ref a1, .int (iI (gI σ a0 4))] [] dX0_valueOf_6 lv_X0_61 rm_X0_valueOf_X0_valueBelow ⟨by decide, by decide⟩ adA_id ha0 rfl rfl (Nat.le_of_ble_eq_true rfl) rfl h (fun x2 s1 q3 h => ?_)
  exact g_lret X hr hlk dX0_valueOf_9 ⟨_, rfl, q3, h⟩
theorem eX0_valueOf {a0 : Nat} {a1 : Nat} {σ : ASt} {Q : Int → ASt → Prop} (ha0 : shp a0 = (0, 0, 0)) (ha1 : shp a1 = (1, 0, 43)) (h : EvL K_X0_valueBelow [.ref a0, .ref a1, .int (iI (gI σ a0 4))] σ (fun x2 s1 => Q x2 s1)) : EvL K_X0_valueOf [.ref a0, .ref a1] σ Q := Ev.of rfl (Nat.le_of_ble_eq_true rfl) rfl (bX0_valueOf_0 ha0 ha1 h)
