/-! by program: the block rules of class 7, part 1 -/
theorem bX7_countUnlike_0 {a0 : Nat} {a1 : Nat} {σ : ASt} {Q : Int → ASt → Prop} (ha0 : shp a0 = (1, 0, 43)) (ha1 : shp a1 = (1, 0, 43)) (h : Wx K_X7_countUnlike (QI Q) 4 [(0, .ref a0), (1, .ref a1), (2, .int (iI 0)), (3, .int (iI 0))] [] σ) : Wx K_X7_countUnlike (QI Q) 0 [(0, .ref a0), (1, .ref a1)] [] σ := by
  intro p l e s m args below meth c D cA ad X0 hr hlk
  have X : Cx p s m args c (adA ad) D cA ad RX7 cX7_countUnlike 4 := X0
  refine g_iconst X dX7_countUnlike_0 ?_
  refine g_istore_n X (lv' := [(2, .int (iI 0)), (0, .ref a0), (1, .ref a1)]) dX7_countUnlike_1 (by decide) rfl ?_
  refine g_iconst X dX7_countUnlike_2 ?_
  refine g_istore_n X (lv' := [(3, .int (iI 0)), (2, .int (iI 0)), (0, .ref a0), (1, .ref a1)]) dX7_countUnlike_3 (by decide) rfl ?_
  exact g_sub (lv' := [(0, .ref a0), (1, .ref a1), (2, .int (iI 0)), (3, .int (iI 0))]) [2, 3, 1, 0] rfl (h p l e s m args below meth c D cA ad X0 hr hlk)
theorem eX7_countUnlike {a0 : Nat} {a1 : Nat} {σ : ASt} {Q : Int → ASt → Prop} (ha0 : shp a0 = (1, 0, 43)) (ha1 : shp a1 = (1, 0, 43)) (h : Wx K_X7_countUnlike (QI Q) 4 [(0, .ref a0), (1, .ref a1), (2, .int (iI 0)), (3, .int (iI 0))] [] σ) : EvI K_X7_countUnlike [.ref a0, .ref a1] σ Q := Ev.of rfl (Nat.le_of_ble_eq_true rfl) rfl (bX7_countUnlike_0 ha0 ha1 h)
theorem bX7_countUnlike_4 {a0 : Nat} {a1 : Nat} {v2 : Int} {v3 : Int} {σ : ASt} {Q : Int → ASt → Prop} (ha0 : shp a0 = (1, 0, 43)) (ha1 : shp a1 = (1, 0, 43)) (h32v2 : i32 v2) (h32v3 : i32 v3) (h : ((43 ≤ v3 → Q v2 σ) ∧ (v3 < 43 → ((43 ≤ v3 → Q v2 σ) ∧ (v3 < 43 → ((0 : Int) ≤ v3 ∧ v3 < 43) ∧ i32 ((gI σ a0 v3)) ∧ i32 ((gI σ a1 v3)) ∧ (((gI σ a0 v3) = (gI σ a1 v3) → Wx K_X7_countUnlike (QI Q) 4 [(0, .ref a0), (1, .ref a1), (2, .int (iI v2)), (3, .int (iI (v3 + 1)))] [] σ) ∧ ((gI σ a0 v3) ≠ (gI σ a1 v3) → Wx K_X7_countUnlike (QI Q) 4 [(0, .ref a0), (1, .ref a1), (2, .int (iI (v2 + 1))), (3, .int (iI (v3 + 1)))] [] σ))))))) : Wx K_X7_countUnlike (QI Q) 4 [(0, .ref a0), (1, .ref a1), (2, .int (iI v2)), (3, .int (iI v3))] [] σ := by
  intro p l e s m args below meth c D cA ad X0 hr hlk
  have X : Cx p s m args c (adA ad) D cA ad RX7 cX7_countUnlike 4 := X0
  refine g_iload_n X 3 dX7_countUnlike_4 rfl ?_
  refine g_aload_n X 0 dX7_countUnlike_5 rfl ?_
  refine g_alen1 X (z := 43) dX7_countUnlike_6 ha0 rfl ?_
  refine g_icmp_ge X (tgt := 34) dX7_countUnlike_7 (by decide) h32v3 (by omega) (fun c1 => ?_) (fun c1 => ?_)
  · have h := h.1 c1
    refine g_iload_n X 2 dX7_countUnlike_34 rfl ?_
    exact g_iret X hr hlk dX7_countUnlike_35 rfl ⟨_, rfl, h32v2, h⟩
  · have h := h.2 c1
    refine g_iload_n X 3 dX7_countUnlike_10 rfl ?_
    refine g_aload_n X 1 dX7_countUnlike_11 rfl ?_
    refine g_alen1 X (z := 43) dX7_countUnlike_12 ha1 rfl ?_
    refine g_icmp_ge X (tgt := 34) dX7_countUnlike_13 (by decide) h32v3 (by omega) (fun c2 => ?_) (fun c2 => ?_)
    · have h := h.1 c2
      refine g_iload_n X 2 dX7_countUnlike_34 rfl ?_
      exact g_iret X hr hlk dX7_countUnlike_35 rfl ⟨_, rfl, h32v2, h⟩
    · have h := h.2 c2
      refine g_aload_n X 0 dX7_countUnlike_16 rfl ?_
      refine g_iload_n X 3 dX7_countUnlike_17 rfl ?_
      obtain ⟨q3, h⟩ := h
      refine g_iald X dX7_countUnlike_18 ha0 q3.1 q3.2 ?_
      refine g_aload_n X 1 dX7_countUnlike_19 rfl ?_
      refine g_iload_n X 3 dX7_countUnlike_20 rfl ?_
      refine g_iald X dX7_countUnlike_21 ha1 q3.1 q3.2 ?_
      obtain ⟨q4, h⟩ := h
      obtain ⟨q5, h⟩ := h
      refine g_icmp_eq X (tgt := 28) dX7_countUnlike_22 (by decide) q4 q5 (fun c6 => ?_) (fun c6 => ?_)
      · have h := h.1 c6
        refine g_iinc X (x := v3) (lv' := [(3, .int (iI (v3 + 1))), (0, .ref a0), (1, .ref a1), (2, .int (iI v2))]) 3 dX7_countUnlike_28 rfl (by decide) rfl ?_
        refine g_goto X (tgt := 4) dX7_countUnlike_31 (by decide) ?_
        exact g_sub (lv' := [(0, .ref a0), (1, .ref a1), (2, .int (iI v2)), (3, .int (iI (v3 + 1)))]) [1, 2, 3, 0] rfl (h p l e s m args below meth c D cA ad X0 hr hlk)
      · have h := h.2 c6
        refine g_iinc X (x := v2) (lv' := [(2, .int (iI (v2 + 1))), (0, .ref a0), (1, .ref a1), (3, .int (iI v3))]) 2 dX7_countUnlike_25 rfl (by decide) rfl ?_
        refine g_iinc X (x := v3) (lv' := [(3, .int (iI (v3 + 1))), (2, .int (iI (v2 + 1))), (0, .ref a0), (1, .ref a1)]) 3 dX7_countUnlike_28 rfl (by decide) rfl ?_
        refine g_goto X (tgt := 4) dX7_countUnlike_31 (by decide) ?_
        exact g_sub (lv' := [(0, .ref a0), (1, .ref a1), (2, .int (iI (v2 + 1))), (3, .int (iI (v3 + 1)))]) [2, 3, 1, 0] rfl (h p l e s m args below meth c D cA ad X0 hr hlk)
theorem bX7_crossed_0 {v1 : Int} {v2 : Int} {v3 : Int} {σ : ASt} {Q : Int → ASt → Prop} (h64v3 : i64 v3) (h : EvR 0 K_X7_baseAt [.ref 0, .int (iI v1)] σ (fun s1 => EvR 0 K_X7_baseAt [.ref 0, .int (iI v2)] s1 (fun s4 => Q (-2) s4) (fun r5 s4 => Q (-2) s4)) (fun r2 s1 => EvR 0 K_X7_baseAt [.ref 0, .int (iI v2)] s1 (fun s7 => Q (-2) s7) (fun r8 s7 => ((0 ≤ v3 → i64 ((gL s7 r2 5)) ∧ (((gL s7 r2 5) < v3 → Q (-3) s7) ∧ (v3 ≤ (gL s7 r2 5) → i64 ((gL s7 r8 5)) ∧ ((v3 ≤ (gL s7 r8 5) → EvV K_X0_greedyInto [.ref r2, .ref 6, .long (lI v3)] s7 (fun s15 => EvV K_X0_greedyInto [.ref r8, .ref 7, .long (lI v3)] s15 (fun s16 => Wx K_X7_crossed (QI Q) 82 [(0, .ref 0), (5, .ref r2), (6, .ref r8), (7, .int (iI 0)), (8, .int (iI 0))] [] s16))) ∧ ((gL s7 r8 5) < v3 → Q (-3) s7))))) ∧ (v3 < 0 → Q (-2) s7))))) : Wx K_X7_crossed (QI Q) 0 [(0, .ref 0), (1, .int (iI v1)), (2, .int (iI v2)), (3, .long (lI v3))] [] σ := by
  intro p l e s m args below meth c D cA ad X0 hr hlk
  have X : Cx p s m args c (adA ad) D cA ad RX7 cX7_crossed 9 := X0
  refine g_aload_n X 0 dX7_crossed_0 rfl ?_
  refine g_iload_n X 1 dX7_crossed_1 rfl ?_
  refine g_cVR X (K := K_X7_baseAt) [.int (iI v1)] [] dX7_crossed_2 lv_X7_75 rm_X7_crossed_X7_baseAt ⟨by decide, by decide⟩ adA_id rfl rfl rfl (Nat.le_of_ble_eq_true rfl) rfl h (fun s1 h => ?_) (fun r2 s1 q3 h => ?_)
  · skip
    refine g_astoreN X (lv' := [(5, .null), (0, .ref 0), (1, .int (iI v1)), (2, .int (iI v2)), (3, .long (lI v3))]) dX7_crossed_5 (by decide) rfl ?_
    refine g_aload_n X 1 dX7_crossed_7 rfl ?_
    refine g_iload_n X 3 dX7_crossed_8 rfl ?_
    refine g_cVR X (K := K_X7_baseAt) [.int (iI v2)] [] dX7_crossed_9 lv_X7_75 rm_X7_crossed_X7_baseAt ⟨by decide, by decide⟩ adA_id rfl rfl rfl (Nat.le_of_ble_eq_true rfl) rfl h (fun s4 h => ?_) (fun r5 s4 q6 h => ?_)
    · skip
      refine g_astoreN X (lv' := [(6, .null), (5, .null), (0, .ref 0), (1, .int (iI v1)), (2, .int (iI v2)), (3, .long (lI v3))]) dX7_crossed_12 (by decide) rfl ?_
      refine g_aloadN X 1 dX7_crossed_14 rfl ?_
      refine g_ifnullN X (tgt := 30) dX7_crossed_16 (by decide) ?_
      refine g_bipush X dX7_crossed_30 (by decide +kernel) ?_
      exact g_iret X hr hlk dX7_crossed_32 rfl ⟨_, rfl, (by omega), h⟩
    · skip
      refine g_astore X (lv' := [(6, .ref r5), (5, .null), (0, .ref 0), (1, .int (iI v1)), (2, .int (iI v2)), (3, .long (lI v3))]) dX7_crossed_12 (by decide) rfl ?_
      refine g_aloadN X 1 dX7_crossed_14 rfl ?_
      refine g_ifnullN X (tgt := 30) dX7_crossed_16 (by decide) ?_
      refine g_bipush X dX7_crossed_30 (by decide +kernel) ?_
      exact g_iret X hr hlk dX7_crossed_32 rfl ⟨_, rfl, (by omega), h⟩
  · skip
    refine g_astore X (lv' := [(5, .ref r2), (0, .ref 0), (1, .int (iI v1)), (2, .int (iI v2)), (3, .long (lI v3))]) dX7_crossed_5 (by decide) rfl ?_
    refine g_aload_n X 1 dX7_crossed_7 rfl ?_
    refine g_iload_n X 3 dX7_crossed_8 rfl ?_
    refine g_cVR X (K := K_X7_baseAt) [.int (iI v2)] [] dX7_crossed_9 lv_X7_75 rm_X7_crossed_X7_baseAt ⟨by decide, by decide⟩ adA_id rfl rfl rfl (Nat.le_of_ble_eq_true rfl) rfl h (fun s7 h => ?_) (fun r8 s7 q9 h => ?_)
    · skip
      refine g_astoreN X (lv' := [(6, .null), (5, .ref r2), (0, .ref 0), (1, .int (iI v1)), (2, .int (iI v2)), (3, .long (lI v3))]) dX7_crossed_12 (by decide) rfl ?_
      refine g_aload X 1 dX7_crossed_14 rfl ?_
      refine g_ifnull X dX7_crossed_16 ?_
      refine g_aloadN X 0 dX7_crossed_19 rfl ?_
      refine g_ifnullN X (tgt := 30) dX7_crossed_21 (by decide) ?_
      refine g_bipush X dX7_crossed_30 (by decide +kernel) ?_
      exact g_iret X hr hlk dX7_crossed_32 rfl ⟨_, rfl, (by omega), h⟩
    · skip
      refine g_astore X (lv' := [(6, .ref r8), (5, .ref r2), (0, .ref 0), (1, .int (iI v1)), (2, .int (iI v2)), (3, .long (lI v3))]) dX7_crossed_12 (by decide) rfl ?_
      refine g_aload X 1 dX7_crossed_14 rfl ?_
      refine g_ifnull X dX7_crossed_16 ?_
      refine g_aload X 0 dX7_crossed_19 rfl ?_
      refine g_ifnull X dX7_crossed_21 ?_
      refine g_lload_n X 5 dX7_crossed_24 rfl ?_
      refine g_lconst X (z := 0) dX7_crossed_25 (by decide +kernel) ?_
      refine g_lc_ge X (tgt := 33) dX7_crossed_26 dX7_crossed_27 (by decide) h64v3 (by omega) (fun c10 => ?_) (fun c10 => ?_)
      · have h := h.1 c10
        refine g_lload_n X 5 dX7_crossed_33 rfl ?_
        refine g_aload X 1 dX7_crossed_34 rfl ?_
        refine g_getL X (z := 5) dX7_crossed_36 lf_X7_126 q3 rfl rfl ?_
        obtain ⟨q11, h⟩ := h
        refine g_lc_gt X (tgt := 53) dX7_crossed_39 dX7_crossed_40 (by decide) h64v3 q11 (fun c12 => ?_) (fun c12 => ?_)
        · have h := h.1 c12
          refine g_bipush X dX7_crossed_53 (by decide +kernel) ?_
          exact g_iret X hr hlk dX7_crossed_55 rfl ⟨_, rfl, (by omega), h⟩
        · have h := h.2 c12
          refine g_lload_n X 5 dX7_crossed_43 rfl ?_
          refine g_aload X 0 dX7_crossed_44 rfl ?_
          refine g_getL X (z := 5) dX7_crossed_46 lf_X7_126 q9 rfl rfl ?_
          obtain ⟨q13, h⟩ := h
          refine g_lc_le X (tgt := 56) dX7_crossed_49 dX7_crossed_50 (by decide) h64v3 q13 (fun c14 => ?_) (fun c14 => ?_)
          · have h := h.1 c14
            refine g_aload X 1 dX7_crossed_56 rfl ?_
            refine g_aload_n X 2 dX7_crossed_58 rfl ?_
            refine g_getF X (f := 6) dX7_crossed_59 lf_X7_60 rfl rfl rfl ?_
            refine g_lload_n X 5 dX7_crossed_62 rfl ?_
            refine g_cVV X (K := K_X0_greedyInto) [.ref 6, .long (lI v3)] [] dX7_crossed_63 lv_X7_133 rm_X7_crossed_X0_greedyInto ⟨by decide, by decide⟩ adA_id q3 rfl rfl (Nat.le_of_ble_eq_true rfl) rfl h (fun s15 h => ?_)
            refine g_aload X 0 dX7_crossed_66 rfl ?_
            refine g_aload_n X 2 dX7_crossed_68 rfl ?_
            refine g_getF X (f := 7) dX7_crossed_69 lf_X7_64 rfl rfl rfl ?_
            refine g_lload_n X 5 dX7_crossed_72 rfl ?_
            refine g_cVV X (K := K_X0_greedyInto) [.ref 7, .long (lI v3)] [] dX7_crossed_73 lv_X7_133 rm_X7_crossed_X0_greedyInto ⟨by decide, by decide⟩ adA_id q9 rfl rfl (Nat.le_of_ble_eq_true rfl) rfl h (fun s16 h => ?_)
            refine g_iconst X dX7_crossed_76 ?_
            refine g_istore X (lv' := [(7, .int (iI 0)), (6, .ref r8), (5, .ref r2), (0, .ref 0), (1, .int (iI v1)), (2, .int (iI v2)), (3, .long (lI v3))]) dX7_crossed_77 (by decide) rfl ?_
            refine g_iconst X dX7_crossed_79 ?_
            refine g_istore X (lv' := [(8, .int (iI 0)), (7, .int (iI 0)), (6, .ref r8), (5, .ref r2), (0, .ref 0), (1, .int (iI v1)), (2, .int (iI v2)), (3, .long (lI v3))]) dX7_crossed_80 (by decide) rfl ?_
            exact g_sub (lv' := [(0, .ref 0), (5, .ref r2), (6, .ref r8), (7, .int (iI 0)), (8, .int (iI 0))]) [4, 3, 2, 1, 0] rfl (h p l e s m args below meth c D cA ad X0 hr hlk)
          · have h := h.2 c14
            refine g_bipush X dX7_crossed_53 (by decide +kernel) ?_
            exact g_iret X hr hlk dX7_crossed_55 rfl ⟨_, rfl, (by omega), h⟩
      · have h := h.2 c10
        refine g_bipush X dX7_crossed_30 (by decide +kernel) ?_
        exact g_iret X hr hlk dX7_crossed_32 rfl ⟨_, rfl, (by omega), h⟩
theorem eX7_crossed {v1 : Int} {v2 : Int} {v3 : Int} {σ : ASt} {Q : Int → ASt → Prop} (h64v3 : i64 v3) (h : EvR 0 K_X7_baseAt [.ref 0, .int (iI v1)] σ (fun s1 => EvR 0 K_X7_baseAt [.ref 0, .int (iI v2)] s1 (fun s4 => Q (-2) s4) (fun r5 s4 => Q (-2) s4)) (fun r2 s1 => EvR 0 K_X7_baseAt [.ref 0, .int (iI v2)] s1 (fun s7 => Q (-2) s7) (fun r8 s7 => ((0 ≤ v3 → i64 ((gL s7 r2 5)) ∧ (((gL s7 r2 5) < v3 → Q (-3) s7) ∧ (v3 ≤ (gL s7 r2 5) → i64 ((gL s7 r8 5)) ∧ ((v3 ≤ (gL s7 r8 5) → EvV K_X0_greedyInto [.ref r2, .ref 6, .long (lI v3)] s7 (fun s15 => EvV K_X0_greedyInto [.ref r8, .ref 7, .long (lI v3)] s15 (fun s16 => Wx K_X7_crossed (QI Q) 82 [(0, .ref 0), (5, .ref r2), (6, .ref r8), (7, .int (iI 0)), (8, .int (iI 0))] [] s16))) ∧ ((gL s7 r8 5) < v3 → Q (-3) s7))))) ∧ (v3 < 0 → Q (-2) s7))))) : EvI K_X7_crossed [.ref 0, .int (iI v1), .int (iI v2), .long (lI v3)] σ Q := Ev.of rfl (Nat.le_of_ble_eq_true rfl) rfl (bX7_crossed_0 h64v3 h)
theorem bX7_crossed_82 {a5 : Nat} {a6 : Nat} {v7 : Int} {v8 : Int} {σ : ASt} {Q : Int → ASt → Prop} (ha5 : shp a5 = (0, 0, 0)) (ha6 : shp a6 = (0, 0, 0)) (h32v7 : i32 v7) (h32v8 : i32 v8) (h : ((43 ≤ v8 → Q v7 σ) ∧ (v8 < 43 → EvZ K_X0_hasPlace [.ref a5, .int (iI v8)] σ (fun s2 => EvZ K_X0_hasPlace [.ref a6, .int (iI v8)] s2 (fun s3 => ((0 : Int) ≤ v8 ∧ v8 < 43) ∧ i32 ((gI s3 6 v8)) ∧ i32 ((gI s3 7 v8)) ∧ (((gI s3 6 v8) ≠ (gI s3 7 v8) → Wx K_X7_crossed (QI Q) 82 [(0, .ref 0), (5, .ref a5), (6, .ref a6), (7, .int (iI v7)), (8, .int (iI (v8 + 1)))] [] s3) ∧ ((gI s3 6 v8) = (gI s3 7 v8) → Wx K_X7_crossed (QI Q) 82 [(0, .ref 0), (5, .ref a5), (6, .ref a6), (7, .int (iI (v7 + 1))), (8, .int (iI (v8 + 1)))] [] s3))) (fun s3 => Wx K_X7_crossed (QI Q) 82 [(0, .ref 0), (5, .ref a5), (6, .ref a6), (7, .int (iI v7)), (8, .int (iI (v8 + 1)))] [] s3)) (fun s2 => Wx K_X7_crossed (QI Q) 82 [(0, .ref 0), (5, .ref a5), (6, .ref a6), (7, .int (iI v7)), (8, .int (iI (v8 + 1)))] [] s2)))) : Wx K_X7_crossed (QI Q) 82 [(0, .ref 0), (5, .ref a5), (6, .ref a6), (7, .int (iI v7)), (8, .int (iI v8))] [] σ := by
  intro p l e s m args below meth c D cA ad X0 hr hlk
  have X : Cx p s m args c (adA ad) D cA ad RX7 cX7_crossed 9 := X0
  refine g_iload X 4 dX7_crossed_82 rfl ?_
  refine g_bipush X dX7_crossed_84 (by decide +kernel) ?_
  refine g_icmp_ge X (tgt := 135) dX7_crossed_86 (by decide) h32v8 (by omega) (fun c1 => ?_) (fun c1 => ?_)
  · have h := h.1 c1
    refine g_iload X 3 dX7_crossed_135 rfl ?_
    exact g_iret X hr hlk dX7_crossed_137 rfl ⟨_, rfl, h32v7, h⟩
  · have h := h.2 c1
    refine g_aload X 1 dX7_crossed_89 rfl ?_
    refine g_iload X 4 dX7_crossed_91 rfl ?_
    refine g_cVZ X (K := K_X0_hasPlace) [.int (iI v8)] [] dX7_crossed_93 lv_X7_113 rm_X7_crossed_X0_hasPlace ⟨by decide, by decide⟩ adA_id ha5 rfl rfl (Nat.le_of_ble_eq_true rfl) rfl h (fun s2 h => ?_) (fun s2 h => ?_)
    · skip
      refine g_if_eq X (tgt := 129) dX7_crossed_96 (by decide) (by omega) (fun hc => absurd hc (by decide)) (fun _ => ?_)
      refine g_aload X 2 dX7_crossed_99 rfl ?_
      refine g_iload X 4 dX7_crossed_101 rfl ?_
      refine g_cVZ X (K := K_X0_hasPlace) [.int (iI v8)] [] dX7_crossed_103 lv_X7_113 rm_X7_crossed_X0_hasPlace ⟨by decide, by decide⟩ adA_id ha6 rfl rfl (Nat.le_of_ble_eq_true rfl) rfl h (fun s3 h => ?_) (fun s3 h => ?_)
      · skip
        refine g_if_eq X (tgt := 129) dX7_crossed_106 (by decide) (by omega) (fun hc => absurd hc (by decide)) (fun _ => ?_)
        refine g_aload_n X 0 dX7_crossed_109 rfl ?_
        refine g_getF X (f := 6) dX7_crossed_110 lf_X7_60 rfl rfl rfl ?_
        refine g_iload X 4 dX7_crossed_113 rfl ?_
        obtain ⟨q4, h⟩ := h
        refine g_iald X dX7_crossed_115 rfl q4.1 q4.2 ?_
        refine g_aload_n X 0 dX7_crossed_116 rfl ?_
        refine g_getF X (f := 7) dX7_crossed_117 lf_X7_64 rfl rfl rfl ?_
        refine g_iload X 4 dX7_crossed_120 rfl ?_
        refine g_iald X dX7_crossed_122 rfl q4.1 q4.2 ?_
        obtain ⟨q5, h⟩ := h
        obtain ⟨q6, h⟩ := h
        refine g_icmp_ne X (tgt := 129) dX7_crossed_123 (by decide) q5 q6 (fun c7 => ?_) (fun c7 => ?_)
        · have h := h.1 c7
          refine g_iinc X (x := v8) (lv' := [(8, .int (iI (v8 + 1))), (0, .ref 0), (5, .ref a5), (6, .ref a6), (7, .int (iI v7))]) 4 dX7_crossed_129 rfl (by decide) rfl ?_
          refine g_goto X (tgt := 82) dX7_crossed_132 (by decide) ?_
          exact g_sub (lv' := [(0, .ref 0), (5, .ref a5), (6, .ref a6), (7, .int (iI v7)), (8, .int (iI (v8 + 1)))]) [1, 2, 3, 4, 0] rfl (h p l e s m args below meth c D cA ad X0 hr hlk)
        · have h := h.2 c7
          refine g_iinc X (x := v7) (lv' := [(7, .int (iI (v7 + 1))), (0, .ref 0), (5, .ref a5), (6, .ref a6), (8, .int (iI v8))]) 3 dX7_crossed_126 rfl (by decide) rfl ?_
          refine g_iinc X (x := v8) (lv' := [(8, .int (iI (v8 + 1))), (7, .int (iI (v7 + 1))), (0, .ref 0), (5, .ref a5), (6, .ref a6)]) 4 dX7_crossed_129 rfl (by decide) rfl ?_
          refine g_goto X (tgt := 82) dX7_crossed_132 (by decide) ?_
          exact g_sub (lv' := [(0, .ref 0), (5, .ref a5), (6, .ref a6), (7, .int (iI (v7 + 1))), (8, .int (iI (v8 + 1)))]) [2, 3, 4, 1, 0] rfl (h p l e s m args below meth c D cA ad X0 hr hlk)
      · skip
        refine g_if_eq X (tgt := 129) dX7_crossed_106 (by decide) (by omega) (fun _ => ?_) (fun hc => absurd hc (by decide))
        refine g_iinc X (x := v8) (lv' := [(8, .int (iI (v8 + 1))), (0, .ref 0), (5, .ref a5), (6, .ref a6), (7, .int (iI v7))]) 4 dX7_crossed_129 rfl (by decide) rfl ?_
        refine g_goto X (tgt := 82) dX7_crossed_132 (by decide) ?_
        exact g_sub (lv' := [(0, .ref 0), (5, .ref a5), (6, .ref a6), (7, .int (iI v7)), (8, .int (iI (v8 + 1)))]) [1, 2, 3, 4, 0] rfl (h p l e s m args below meth c D cA ad X0 hr hlk)
    · skip
      refine g_if_eq X (tgt := 129) dX7_crossed_96 (by decide) (by omega) (fun _ => ?_) (fun hc => absurd hc (by decide))
      refine g_iinc X (x := v8) (lv' := [(8, .int (iI (v8 + 1))), (0, .ref 0), (5, .ref a5), (6, .ref a6), (7, .int (iI v7))]) 4 dX7_crossed_129 rfl (by decide) rfl ?_
      refine g_goto X (tgt := 82) dX7_crossed_132 (by decide) ?_
      exact g_sub (lv' := [(0, .ref 0), (5, .ref a5), (6, .ref a6), (7, .int (iI v7)), (8, .int (iI (v8 + 1)))]) [1, 2, 3, 4, 0] rfl (h p l e s m args below meth c D cA ad X0 hr hlk)
theorem bX7_digit_0 {v1 : Int} {v2 : Int} {v3 : Int} {σ : ASt} {Q : Int → ASt → Prop}  (h : EvR 4 K_X7_reelAt [.ref 0, .int (iI v1)] σ (fun s1 => Q (-2) s1) (fun r2 s1 => EvZ K_X7_isWithin [.int (iI v3), .int (iI 0), .int (iI 99)] s1 (fun s4 => ((gP s4 r2 0 = none → Q (-11) s4) ∧ (∀ r5 : Nat, gP s4 r2 0 = some r5 → shp r5 = (0, 0, 0) ∧ EvZ K_X0_hasPlace [.ref r5, .int (iI v2)] s4 (fun s8 => EvV K_X1_keep [.ref 11, .int (iI v1), .ref (r2 + 12)] s8 (fun s9 => ((0 : Int) ≤ v2 ∧ v2 < 43) ∧ i32 ((gI s9 (r2 + 12) v2)) ∧ Q (gI s9 (r2 + 12) v2) (sI s9 (r2 + 12) v2 v3))) (fun s8 => Q (-12) s8)))) (fun s4 => Q (-2) s4))) : Wx K_X7_digit (QI Q) 0 [(0, .ref 0), (1, .int (iI v1)), (2, .int (iI v2)), (3, .int (iI v3))] [] σ := by
  intro p l e s m args below meth c D cA ad X0 hr hlk
  have X : Cx p s m args c (adA ad) D cA ad RX7 cX7_digit 7 := X0
  refine g_aload_n X 0 dX7_digit_0 rfl ?_
  refine g_iload_n X 1 dX7_digit_1 rfl ?_
  refine g_cVR X (K := K_X7_reelAt) [.int (iI v1)] [] dX7_digit_2 lv_X7_87 rm_X7_digit_X7_reelAt ⟨by decide, by decide⟩ adA_id rfl rfl rfl (Nat.le_of_ble_eq_true rfl) rfl h (fun s1 h => ?_) (fun r2 s1 q3 h => ?_)
  · skip
    refine g_astoreN X (lv' := [(4, .null), (0, .ref 0), (1, .int (iI v1)), (2, .int (iI v2)), (3, .int (iI v3))]) dX7_digit_5 (by decide) rfl ?_
    refine g_aloadN X 0 dX7_digit_7 rfl ?_
    refine g_ifnullN X (tgt := 22) dX7_digit_9 (by decide) ?_
    refine g_bipush X dX7_digit_22 (by decide +kernel) ?_
    exact g_iret X hr hlk dX7_digit_24 rfl ⟨_, rfl, (by omega), h⟩
  · skip
    refine g_astore X (lv' := [(4, .ref r2), (0, .ref 0), (1, .int (iI v1)), (2, .int (iI v2)), (3, .int (iI v3))]) dX7_digit_5 (by decide) rfl ?_
    refine g_aload X 0 dX7_digit_7 rfl ?_
    refine g_ifnull X dX7_digit_9 ?_
    refine g_iload_n X 4 dX7_digit_12 rfl ?_
    refine g_iconst X dX7_digit_13 ?_
    refine g_bipush X dX7_digit_14 (by decide +kernel) ?_
    refine g_cSZ X (K := K_X7_isWithin) [.int (iI v3), .int (iI 0), .int (iI 99)] [] dX7_digit_16 ls_X7_102 rm_X7_digit_X7_isWithin ⟨by decide, by decide⟩ adA_id rfl (Nat.le_of_ble_eq_true rfl) rfl h (fun s4 h => ?_) (fun s4 h => ?_)
    · skip
      refine g_if_ne X (tgt := 25) dX7_digit_19 (by decide) (by omega) (fun _ => ?_) (fun hc => absurd hc (by decide))
      refine g_aload X 0 dX7_digit_25 rfl ?_
      refine g_getP X dX7_digit_27 lf_X7_91 q3 rfl (fun c6 => ?_) (fun r5 c6 => ?_)
      · have h := h.1 c6
        refine g_astoreN X (lv' := [(5, .null), (4, .ref r2), (0, .ref 0), (1, .int (iI v1)), (2, .int (iI v2)), (3, .int (iI v3))]) dX7_digit_30 (by decide) rfl ?_
        refine g_aloadN X 0 dX7_digit_32 rfl ?_
        refine g_ifnonnullN X dX7_digit_34 ?_
        refine g_bipush X dX7_digit_37 (by decide +kernel) ?_
        exact g_iret X hr hlk dX7_digit_39 rfl ⟨_, rfl, (by omega), h⟩
      · obtain ⟨q7, h⟩ := h.2 r5 c6
        refine g_astore X (lv' := [(5, .ref r5), (4, .ref r2), (0, .ref 0), (1, .int (iI v1)), (2, .int (iI v2)), (3, .int (iI v3))]) dX7_digit_30 (by decide) rfl ?_
        refine g_aload X 0 dX7_digit_32 rfl ?_
        refine g_ifnonnull X (tgt := 40) dX7_digit_34 (by decide) ?_
        refine g_aload X 0 dX7_digit_40 rfl ?_
        refine g_iload_n X 4 dX7_digit_42 rfl ?_
        refine g_cVZ X (K := K_X0_hasPlace) [.int (iI v2)] [] dX7_digit_43 lv_X7_113 rm_X7_digit_X0_hasPlace ⟨by decide, by decide⟩ adA_id q7 rfl rfl (Nat.le_of_ble_eq_true rfl) rfl h (fun s8 h => ?_) (fun s8 h => ?_)
        · skip
          refine g_if_ne X (tgt := 52) dX7_digit_46 (by decide) (by omega) (fun _ => ?_) (fun hc => absurd hc (by decide))
          refine g_aload_n X 2 dX7_digit_52 rfl ?_
          refine g_getF X (f := 11) dX7_digit_53 lf_X7_39 rfl rfl rfl ?_
          refine g_iload_n X 3 dX7_digit_56 rfl ?_
          refine g_aload X 1 dX7_digit_57 rfl ?_
          refine g_getF X (f := (r2 + 12)) dX7_digit_59 lf_X7_144 q3 rfl (fn_4_1 q3) ?_
          refine g_cVV X (K := K_X1_keep) [.int (iI v1), .ref (r2 + 12)] [] dX7_digit_62 lv_X7_162 rm_X7_digit_X1_keep ⟨by decide, by decide⟩ adA_id rfl rfl rfl (Nat.le_of_ble_eq_true rfl) rfl h (fun s9 h => ?_)
          refine g_aload X 1 dX7_digit_65 rfl ?_
          refine g_getF X (f := (r2 + 12)) dX7_digit_67 lf_X7_144 q3 rfl (fn_4_1 q3) ?_
          refine g_iload_n X 4 dX7_digit_70 rfl ?_
          obtain ⟨q10, h⟩ := h
          refine g_iald X dX7_digit_71 (sf_4_1 q3) q10.1 q10.2 ?_
          refine g_istore X (lv' := [(6, .int (iI (gI s9 (r2 + 12) v2))), (5, .ref r5), (4, .ref r2), (0, .ref 0), (1, .int (iI v1)), (2, .int (iI v2)), (3, .int (iI v3))]) dX7_digit_72 (by decide) rfl ?_
          refine g_aload X 2 dX7_digit_74 rfl ?_
          refine g_getF X (f := (r2 + 12)) dX7_digit_76 lf_X7_144 q3 rfl (fn_4_1 q3) ?_
          refine g_iload_n X 5 dX7_digit_79 rfl ?_
          refine g_iload_n X 6 dX7_digit_80 rfl ?_
          refine g_iast X dX7_digit_81 (sf_4_1 q3) q10.1 q10.2 ?_
          refine g_iload X 0 dX7_digit_82 rfl ?_
          obtain ⟨q11, h⟩ := h
          exact g_iret X hr hlk dX7_digit_84 rfl ⟨_, rfl, q11, h⟩
        · skip
          refine g_if_ne X (tgt := 52) dX7_digit_46 (by decide) (by omega) (fun hc => absurd hc (by decide)) (fun _ => ?_)
          refine g_bipush X dX7_digit_49 (by decide +kernel) ?_
          exact g_iret X hr hlk dX7_digit_51 rfl ⟨_, rfl, (by omega), h⟩
    · skip
      refine g_if_ne X (tgt := 25) dX7_digit_19 (by decide) (by omega) (fun hc => absurd hc (by decide)) (fun _ => ?_)
      refine g_bipush X dX7_digit_22 (by decide +kernel) ?_
      exact g_iret X hr hlk dX7_digit_24 rfl ⟨_, rfl, (by omega), h⟩
theorem eX7_digit {v1 : Int} {v2 : Int} {v3 : Int} {σ : ASt} {Q : Int → ASt → Prop}  (h : EvR 4 K_X7_reelAt [.ref 0, .int (iI v1)] σ (fun s1 => Q (-2) s1) (fun r2 s1 => EvZ K_X7_isWithin [.int (iI v3), .int (iI 0), .int (iI 99)] s1 (fun s4 => ((gP s4 r2 0 = none → Q (-11) s4) ∧ (∀ r5 : Nat, gP s4 r2 0 = some r5 → shp r5 = (0, 0, 0) ∧ EvZ K_X0_hasPlace [.ref r5, .int (iI v2)] s4 (fun s8 => EvV K_X1_keep [.ref 11, .int (iI v1), .ref (r2 + 12)] s8 (fun s9 => ((0 : Int) ≤ v2 ∧ v2 < 43) ∧ i32 ((gI s9 (r2 + 12) v2)) ∧ Q (gI s9 (r2 + 12) v2) (sI s9 (r2 + 12) v2 v3))) (fun s8 => Q (-12) s8)))) (fun s4 => Q (-2) s4))) : EvI K_X7_digit [.ref 0, .int (iI v1), .int (iI v2), .int (iI v3)] σ Q := Ev.of rfl (Nat.le_of_ble_eq_true rfl) rfl (bX7_digit_0  h)
theorem bX7_empty_0 {v1 : Int} {σ : ASt} {Q : Int → ASt → Prop}  (h : EvR 4 K_X7_reelAt [.ref 0, .int (iI v1)] σ (fun s1 => Q (-2) s1) (fun r2 s1 => ((gP s1 r2 0 = none → Q (-11) s1) ∧ (∀ r4 : Nat, gP s1 r2 0 = some r4 → shp r4 = (0, 0, 0) ∧ EvV K_X7_clearReel [.ref 0, .int (iI v1)] s1 (fun s7 => Q 1 s7))))) : Wx K_X7_empty (QI Q) 0 [(0, .ref 0), (1, .int (iI v1))] [] σ := by
  intro p l e s m args below meth c D cA ad X0 hr hlk
  have X : Cx p s m args c (adA ad) D cA ad RX7 cX7_empty 3 := X0
  refine g_aload_n X 0 dX7_empty_0 rfl ?_
  refine g_iload_n X 1 dX7_empty_1 rfl ?_
  refine g_cVR X (K := K_X7_reelAt) [.int (iI v1)] [] dX7_empty_2 lv_X7_87 rm_X7_empty_X7_reelAt ⟨by decide, by decide⟩ adA_id rfl rfl rfl (Nat.le_of_ble_eq_true rfl) rfl h (fun s1 h => ?_) (fun r2 s1 q3 h => ?_)
  · skip
    refine g_astore_nN X (lv' := [(2, .null), (0, .ref 0), (1, .int (iI v1))]) dX7_empty_5 (by decide) rfl ?_
    refine g_aload_nN X 0 dX7_empty_6 rfl ?_
    refine g_ifnonnullN X dX7_empty_7 ?_
    refine g_bipush X dX7_empty_10 (by decide +kernel) ?_
    exact g_iret X hr hlk dX7_empty_12 rfl ⟨_, rfl, (by omega), h⟩
  · skip
    refine g_astore_n X (lv' := [(2, .ref r2), (0, .ref 0), (1, .int (iI v1))]) dX7_empty_5 (by decide) rfl ?_
    refine g_aload_n X 0 dX7_empty_6 rfl ?_
    refine g_ifnonnull X (tgt := 13) dX7_empty_7 (by decide) ?_
    refine g_aload_n X 0 dX7_empty_13 rfl ?_
    refine g_getP X dX7_empty_14 lf_X7_91 q3 rfl (fun c5 => ?_) (fun r4 c5 => ?_)
    · have h := h.1 c5
      refine g_ifnonnullN X dX7_empty_17 ?_
      refine g_bipush X dX7_empty_20 (by decide +kernel) ?_
      exact g_iret X hr hlk dX7_empty_22 rfl ⟨_, rfl, (by omega), h⟩
    · obtain ⟨q6, h⟩ := h.2 r4 c5
      refine g_ifnonnull X (tgt := 23) dX7_empty_17 (by decide) ?_
      refine g_aload_n X 1 dX7_empty_23 rfl ?_
      refine g_iload_n X 2 dX7_empty_24 rfl ?_
      refine g_cVV X (K := K_X7_clearReel) [.int (iI v1)] [] dX7_empty_25 lv_X7_95 rm_X7_empty_X7_clearReel ⟨by decide, by decide⟩ adA_id rfl rfl rfl (Nat.le_of_ble_eq_true rfl) rfl h (fun s7 h => ?_)
      refine g_iconst X dX7_empty_28 ?_
      exact g_iret X hr hlk dX7_empty_29 rfl ⟨_, rfl, (by omega), h⟩
theorem eX7_empty {v1 : Int} {σ : ASt} {Q : Int → ASt → Prop}  (h : EvR 4 K_X7_reelAt [.ref 0, .int (iI v1)] σ (fun s1 => Q (-2) s1) (fun r2 s1 => ((gP s1 r2 0 = none → Q (-11) s1) ∧ (∀ r4 : Nat, gP s1 r2 0 = some r4 → shp r4 = (0, 0, 0) ∧ EvV K_X7_clearReel [.ref 0, .int (iI v1)] s1 (fun s7 => Q 1 s7))))) : EvI K_X7_empty [.ref 0, .int (iI v1)] σ Q := Ev.of rfl (Nat.le_of_ble_eq_true rfl) rfl (bX7_empty_0  h)
theorem bX7_feed_0 {v1 : Int} {σ : ASt} {Q : Int → ASt → Prop}  (h : EvZ K_X7_isWithin [.int (iI v1), .int (iI 0), .int (iI 127)] σ (fun s1 => EvZ K_X6_add [.ref 9, .int (iI v1)] s1 (fun s2 => i32 ((gI s2 9 1)) ∧ Q (gI s2 9 1) s2) (fun s2 => Q (-4) s2)) (fun s1 => Q (-2) s1)) : Wx K_X7_feed (QI Q) 0 [(0, .ref 0), (1, .int (iI v1))] [] σ := by
  intro p l e s m args below meth c D cA ad X0 hr hlk
  have X : Cx p s m args c (adA ad) D cA ad RX7 cX7_feed 2 := X0
  refine g_iload_n X 1 dX7_feed_0 rfl ?_
  refine g_iconst X dX7_feed_1 ?_
  refine g_bipush X dX7_feed_2 (by decide +kernel) ?_
  refine g_cSZ X (K := K_X7_isWithin) [.int (iI v1), .int (iI 0), .int (iI 127)] [] dX7_feed_4 ls_X7_102 rm_X7_feed_X7_isWithin ⟨by decide, by decide⟩ adA_id rfl (Nat.le_of_ble_eq_true rfl) rfl h (fun s1 h => ?_) (fun s1 h => ?_)
  · skip
    refine g_if_ne X (tgt := 13) dX7_feed_7 (by decide) (by omega) (fun _ => ?_) (fun hc => absurd hc (by decide))
    refine g_aload_n X 0 dX7_feed_13 rfl ?_
    refine g_getF X (f := 9) dX7_feed_14 lf_X7_32 rfl rfl rfl ?_
    refine g_iload_n X 1 dX7_feed_17 rfl ?_
    refine g_cVZ X (K := K_X6_add) [.int (iI v1)] [] dX7_feed_18 lv_X7_235 rm_X7_feed_X6_add ⟨by decide, by decide⟩ adA_id rfl rfl rfl (Nat.le_of_ble_eq_true rfl) rfl h (fun s2 h => ?_) (fun s2 h => ?_)
    · skip
      refine g_if_eq X (tgt := 34) dX7_feed_21 (by decide) (by omega) (fun hc => absurd hc (by decide)) (fun _ => ?_)
      refine g_aload_n X 0 dX7_feed_24 rfl ?_
      refine g_getF X (f := 9) dX7_feed_25 lf_X7_32 rfl rfl rfl ?_
      refine g_getI X (z := 1) dX7_feed_28 lf_X7_238 rfl rfl rfl ?_
      refine g_goto X (tgt := 36) dX7_feed_31 (by decide) ?_
      obtain ⟨q3, h⟩ := h
      exact g_iret X hr hlk dX7_feed_36 rfl ⟨_, rfl, q3, h⟩
    · skip
      refine g_if_eq X (tgt := 34) dX7_feed_21 (by decide) (by omega) (fun _ => ?_) (fun hc => absurd hc (by decide))
      refine g_bipush X dX7_feed_34 (by decide +kernel) ?_
      exact g_iret X hr hlk dX7_feed_36 rfl ⟨_, rfl, (by omega), h⟩
  · skip
    refine g_if_ne X (tgt := 13) dX7_feed_7 (by decide) (by omega) (fun hc => absurd hc (by decide)) (fun _ => ?_)
    refine g_bipush X dX7_feed_10 (by decide +kernel) ?_
    exact g_iret X hr hlk dX7_feed_12 rfl ⟨_, rfl, (by omega), h⟩
theorem eX7_feed {v1 : Int} {σ : ASt} {Q : Int → ASt → Prop}  (h : EvZ K_X7_isWithin [.int (iI v1), .int (iI 0), .int (iI 127)] σ (fun s1 => EvZ K_X6_add [.ref 9, .int (iI v1)] s1 (fun s2 => i32 ((gI s2 9 1)) ∧ Q (gI s2 9 1) s2) (fun s2 => Q (-4) s2)) (fun s1 => Q (-2) s1)) : EvI K_X7_feed [.ref 0, .int (iI v1)] σ Q := Ev.of rfl (Nat.le_of_ble_eq_true rfl) rfl (bX7_feed_0  h)
theorem bX7_fillReel_0 {v1 : Int} {a2 : Nat} {a3 : Nat} {σ : ASt} {Q : Int → ASt → Prop} (ha2 : shp a2 = (0, 0, 0)) (ha3 : shp a3 = (1, 0, 43)) (h : EvR 4 K_X7_reelAt [.ref 0, .int (iI v1)] σ (fun s1 => Q (-2) s1) (fun r2 s1 => EvV K_X7_copyDigits [.ref a3, .ref (r2 + 12)] (sP s1 r2 0 (some a2)) (fun s4 => EvV K_X1_forget [.ref 11, .int (iI v1)] s4 (fun s5 => EvI K_X7_countNotZero [.ref (r2 + 12)] s5 (fun x7 s6 => Q x7 s6))))) : Wx K_X7_fillReel (QI Q) 0 [(0, .ref 0), (1, .int (iI v1)), (2, .ref a2), (3, .ref a3)] [] σ := by
  intro p l e s m args below meth c D cA ad X0 hr hlk
  have X : Cx p s m args c (adA ad) D cA ad RX7 cX7_fillReel 5 := X0
  refine g_aload_n X 0 dX7_fillReel_0 rfl ?_
  refine g_iload_n X 1 dX7_fillReel_1 rfl ?_
  refine g_cVR X (K := K_X7_reelAt) [.int (iI v1)] [] dX7_fillReel_2 lv_X7_87 rm_X7_fillReel_X7_reelAt ⟨by decide, by decide⟩ adA_id rfl rfl rfl (Nat.le_of_ble_eq_true rfl) rfl h (fun s1 h => ?_) (fun r2 s1 q3 h => ?_)
  · skip
    refine g_astoreN X (lv' := [(4, .null), (0, .ref 0), (1, .int (iI v1)), (2, .ref a2), (3, .ref a3)]) dX7_fillReel_5 (by decide) rfl ?_
    refine g_aloadN X 0 dX7_fillReel_7 rfl ?_
    refine g_ifnonnullN X dX7_fillReel_9 ?_
    refine g_bipush X dX7_fillReel_12 (by decide +kernel) ?_
    exact g_iret X hr hlk dX7_fillReel_14 rfl ⟨_, rfl, (by omega), h⟩
  · skip
    refine g_astore X (lv' := [(4, .ref r2), (0, .ref 0), (1, .int (iI v1)), (2, .ref a2), (3, .ref a3)]) dX7_fillReel_5 (by decide) rfl ?_
    refine g_aload X 0 dX7_fillReel_7 rfl ?_
    refine g_ifnonnull X (tgt := 15) dX7_fillReel_9 (by decide) ?_
    refine g_aload X 0 dX7_fillReel_15 rfl ?_
    refine g_aload_n X 3 dX7_fillReel_17 rfl ?_
    refine g_putP X (r := (some a2)) dX7_fillReel_18 lp_X7_91 q3 rfl rfl ?_
    refine g_aload_n X 4 dX7_fillReel_21 rfl ?_
    refine g_aload X 0 dX7_fillReel_22 rfl ?_
    refine g_getF X (f := (r2 + 12)) dX7_fillReel_24 lf_X7_144 q3 rfl (fn_4_1 q3) ?_
    refine g_cSV X (K := K_X7_copyDigits) [.ref a3, .ref (r2 + 12)] [] dX7_fillReel_27 ls_X7_185 rm_X7_fillReel_X7_copyDigits ⟨by decide, by decide⟩ adA_id rfl (Nat.le_of_ble_eq_true rfl) rfl h (fun s4 h => ?_)
    refine g_aload_n X 1 dX7_fillReel_30 rfl ?_
    refine g_getF X (f := 11) dX7_fillReel_31 lf_X7_39 rfl rfl rfl ?_
    refine g_iload_n X 2 dX7_fillReel_34 rfl ?_
    refine g_cVV X (K := K_X1_forget) [.int (iI v1)] [] dX7_fillReel_35 lv_X7_294 rm_X7_fillReel_X1_forget ⟨by decide, by decide⟩ adA_id rfl rfl rfl (Nat.le_of_ble_eq_true rfl) rfl h (fun s5 h => ?_)
    refine g_aload X 0 dX7_fillReel_38 rfl ?_
    refine g_getF X (f := (r2 + 12)) dX7_fillReel_40 lf_X7_144 q3 rfl (fn_4_1 q3) ?_
    refine g_cSI X (K := K_X7_countNotZero) [.ref (r2 + 12)] [] dX7_fillReel_43 ls_X7_151 rm_X7_fillReel_X7_countNotZero ⟨by decide, by decide⟩ adA_id rfl (Nat.le_of_ble_eq_true rfl) rfl h (fun x7 s6 q8 h => ?_)
    exact g_iret X hr hlk dX7_fillReel_46 rfl ⟨_, rfl, q8, h⟩
theorem eX7_fillReel {v1 : Int} {a2 : Nat} {a3 : Nat} {σ : ASt} {Q : Int → ASt → Prop} (ha2 : shp a2 = (0, 0, 0)) (ha3 : shp a3 = (1, 0, 43)) (h : EvR 4 K_X7_reelAt [.ref 0, .int (iI v1)] σ (fun s1 => Q (-2) s1) (fun r2 s1 => EvV K_X7_copyDigits [.ref a3, .ref (r2 + 12)] (sP s1 r2 0 (some a2)) (fun s4 => EvV K_X1_forget [.ref 11, .int (iI v1)] s4 (fun s5 => EvI K_X7_countNotZero [.ref (r2 + 12)] s5 (fun x7 s6 => Q x7 s6))))) : EvI K_X7_fillReel [.ref 0, .int (iI v1), .ref a2, .ref a3] σ Q := Ev.of rfl (Nat.le_of_ble_eq_true rfl) rfl (bX7_fillReel_0 ha2 ha3 h)
theorem bX7_film_0 {v1 : Int} {v2 : Int} {σ : ASt} {Q : Int → ASt → Prop}  (h : EvR 4 K_X7_reelAt [.ref 0, .int (iI v1)] σ (fun s1 => EvR 2 K_X7_rowAt [.ref 0, .int (iI v2)] s1 (fun s4 => Q (-2) s4) (fun r5 s4 => Q (-2) s4)) (fun r2 s1 => EvR 2 K_X7_rowAt [.ref 0, .int (iI v2)] s1 (fun s7 => Q (-2) s7) (fun r8 s7 => ((gP s7 r2 0 = none → Q (-11) s7) ∧ (∀ r10 : Nat, gP s7 r2 0 = some r10 → shp r10 = (0, 0, 0) ∧ EvV K_X2_become [.ref r8, .int (iI (gI s7 r10 4))] s7 (fun s13 => Wx K_X7_film (QI Q) 52 [(3, .ref r2), (4, .ref r8), (5, .ref r10), (6, .int (iI 0))] [] s13)))))) : Wx K_X7_film (QI Q) 0 [(0, .ref 0), (1, .int (iI v1)), (2, .int (iI v2))] [] σ := by
  intro p l e s m args below meth c D cA ad X0 hr hlk
  have X : Cx p s m args c (adA ad) D cA ad RX7 cX7_film 7 := X0
  refine g_aload_n X 0 dX7_film_0 rfl ?_
  refine g_iload_n X 1 dX7_film_1 rfl ?_
  refine g_cVR X (K := K_X7_reelAt) [.int (iI v1)] [] dX7_film_2 lv_X7_87 rm_X7_film_X7_reelAt ⟨by decide, by decide⟩ adA_id rfl rfl rfl (Nat.le_of_ble_eq_true rfl) rfl h (fun s1 h => ?_) (fun r2 s1 q3 h => ?_)
  · skip
    refine g_astore_nN X (lv' := [(3, .null), (0, .ref 0), (1, .int (iI v1)), (2, .int (iI v2))]) dX7_film_5 (by decide) rfl ?_
    refine g_aload_n X 1 dX7_film_6 rfl ?_
    refine g_iload_n X 3 dX7_film_7 rfl ?_
    refine g_cVR X (K := K_X7_rowAt) [.int (iI v2)] [] dX7_film_8 lv_X7_256 rm_X7_film_X7_rowAt ⟨by decide, by decide⟩ adA_id rfl rfl rfl (Nat.le_of_ble_eq_true rfl) rfl h (fun s4 h => ?_) (fun r5 s4 q6 h => ?_)
    · skip
      refine g_astoreN X (lv' := [(4, .null), (3, .null), (0, .ref 0), (1, .int (iI v1)), (2, .int (iI v2))]) dX7_film_11 (by decide) rfl ?_
      refine g_aload_nN X 1 dX7_film_13 rfl ?_
      refine g_ifnullN X (tgt := 22) dX7_film_14 (by decide) ?_
      refine g_bipush X dX7_film_22 (by decide +kernel) ?_
      exact g_iret X hr hlk dX7_film_24 rfl ⟨_, rfl, (by omega), h⟩
    · skip
      refine g_astore X (lv' := [(4, .ref r5), (3, .null), (0, .ref 0), (1, .int (iI v1)), (2, .int (iI v2))]) dX7_film_11 (by decide) rfl ?_
      refine g_aload_nN X 1 dX7_film_13 rfl ?_
      refine g_ifnullN X (tgt := 22) dX7_film_14 (by decide) ?_
      refine g_bipush X dX7_film_22 (by decide +kernel) ?_
      exact g_iret X hr hlk dX7_film_24 rfl ⟨_, rfl, (by omega), h⟩
  · skip
    refine g_astore_n X (lv' := [(3, .ref r2), (0, .ref 0), (1, .int (iI v1)), (2, .int (iI v2))]) dX7_film_5 (by decide) rfl ?_
    refine g_aload_n X 1 dX7_film_6 rfl ?_
    refine g_iload_n X 3 dX7_film_7 rfl ?_
    refine g_cVR X (K := K_X7_rowAt) [.int (iI v2)] [] dX7_film_8 lv_X7_256 rm_X7_film_X7_rowAt ⟨by decide, by decide⟩ adA_id rfl rfl rfl (Nat.le_of_ble_eq_true rfl) rfl h (fun s7 h => ?_) (fun r8 s7 q9 h => ?_)
    · skip
      refine g_astoreN X (lv' := [(4, .null), (3, .ref r2), (0, .ref 0), (1, .int (iI v1)), (2, .int (iI v2))]) dX7_film_11 (by decide) rfl ?_
      refine g_aload_n X 1 dX7_film_13 rfl ?_
      refine g_ifnull X dX7_film_14 ?_
      refine g_aloadN X 0 dX7_film_17 rfl ?_
      refine g_ifnonnullN X dX7_film_19 ?_
      refine g_bipush X dX7_film_22 (by decide +kernel) ?_
      exact g_iret X hr hlk dX7_film_24 rfl ⟨_, rfl, (by omega), h⟩
    · skip
      refine g_astore X (lv' := [(4, .ref r8), (3, .ref r2), (0, .ref 0), (1, .int (iI v1)), (2, .int (iI v2))]) dX7_film_11 (by decide) rfl ?_
      refine g_aload_n X 1 dX7_film_13 rfl ?_
      refine g_ifnull X dX7_film_14 ?_
      refine g_aload X 0 dX7_film_17 rfl ?_
      refine g_ifnonnull X (tgt := 25) dX7_film_19 (by decide) ?_
      refine g_aload_n X 1 dX7_film_25 rfl ?_
      refine g_getP X dX7_film_26 lf_X7_91 q3 rfl (fun c11 => ?_) (fun r10 c11 => ?_)
      · have h := h.1 c11
        refine g_astoreN X (lv' := [(5, .null), (4, .ref r8), (3, .ref r2), (0, .ref 0), (1, .int (iI v1)), (2, .int (iI v2))]) dX7_film_29 (by decide) rfl ?_
        refine g_aloadN X 0 dX7_film_31 rfl ?_
        refine g_ifnonnullN X dX7_film_33 ?_
        refine g_bipush X dX7_film_36 (by decide +kernel) ?_
        exact g_iret X hr hlk dX7_film_38 rfl ⟨_, rfl, (by omega), h⟩
      · obtain ⟨q12, h⟩ := h.2 r10 c11
        refine g_astore X (lv' := [(5, .ref r10), (4, .ref r8), (3, .ref r2), (0, .ref 0), (1, .int (iI v1)), (2, .int (iI v2))]) dX7_film_29 (by decide) rfl ?_
        refine g_aload X 0 dX7_film_31 rfl ?_
        refine g_ifnonnull X (tgt := 39) dX7_film_33 (by decide) ?_
        refine g_aload X 1 dX7_film_39 rfl ?_
        refine g_aload X 0 dX7_film_41 rfl ?_
        refine g_getI X (z := 4) dX7_film_43 lf_X7_98 q12 rfl rfl ?_
        refine g_cVV X (K := K_X2_become) [.int (iI (gI s7 r10 4))] [] dX7_film_46 lv_X7_260 rm_X7_film_X2_become ⟨by decide, by decide⟩ adA_id q9 rfl rfl (Nat.le_of_ble_eq_true rfl) rfl h (fun s13 h => ?_)
        refine g_iconst X dX7_film_49 ?_
        refine g_istore X (lv' := [(6, .int (iI 0)), (5, .ref r10), (4, .ref r8), (3, .ref r2), (0, .ref 0), (1, .int (iI v1)), (2, .int (iI v2))]) dX7_film_50 (by decide) rfl ?_
        exact g_sub (lv' := [(3, .ref r2), (4, .ref r8), (5, .ref r10), (6, .int (iI 0))]) [3, 2, 1, 0] rfl (h p l e s m args below meth c D cA ad X0 hr hlk)
theorem eX7_film {v1 : Int} {v2 : Int} {σ : ASt} {Q : Int → ASt → Prop}  (h : EvR 4 K_X7_reelAt [.ref 0, .int (iI v1)] σ (fun s1 => EvR 2 K_X7_rowAt [.ref 0, .int (iI v2)] s1 (fun s4 => Q (-2) s4) (fun r5 s4 => Q (-2) s4)) (fun r2 s1 => EvR 2 K_X7_rowAt [.ref 0, .int (iI v2)] s1 (fun s7 => Q (-2) s7) (fun r8 s7 => ((gP s7 r2 0 = none → Q (-11) s7) ∧ (∀ r10 : Nat, gP s7 r2 0 = some r10 → shp r10 = (0, 0, 0) ∧ EvV K_X2_become [.ref r8, .int (iI (gI s7 r10 4))] s7 (fun s13 => Wx K_X7_film (QI Q) 52 [(3, .ref r2), (4, .ref r8), (5, .ref r10), (6, .int (iI 0))] [] s13)))))) : EvI K_X7_film [.ref 0, .int (iI v1), .int (iI v2)] σ Q := Ev.of rfl (Nat.le_of_ble_eq_true rfl) rfl (bX7_film_0  h)
theorem bX7_film_52 {a3 : Nat} {a4 : Nat} {a5 : Nat} {v6 : Int} {σ : ASt} {Q : Int → ASt → Prop} (ha3 : shp a3 = (0, 4, 0)) (ha4 : shp a4 = (0, 2, 0)) (ha5 : shp a5 = (0, 0, 0)) (h32v6 : i32 v6) (h : ((43 ≤ v6 → i32 ((gI σ a5 4)) ∧ Q (gI σ a5 4) σ) ∧ (v6 < 43 → EvZ K_X2_hasPlace [.ref a4, .int (iI v6)] σ (fun s3 => ((0 : Int) ≤ v6 ∧ v6 < 43) ∧ i32 ((gI s3 (a3 + 12) v6)) ∧ ((0 : Int) ≤ v6 ∧ v6 < 60) ∧ Wx K_X7_film (QI Q) 52 [(3, .ref a3), (4, .ref a4), (5, .ref a5), (6, .int (iI (v6 + 1)))] [] (sL s3 (a4 + 3) v6 (gI s3 (a3 + 12) v6))) (fun s3 => i32 ((gI s3 a5 4)) ∧ Q (gI s3 a5 4) s3)))) : Wx K_X7_film (QI Q) 52 [(3, .ref a3), (4, .ref a4), (5, .ref a5), (6, .int (iI v6))] [] σ := by
  intro p l e s m args below meth c D cA ad X0 hr hlk
  have X : Cx p s m args c (adA ad) D cA ad RX7 cX7_film 7 := X0
  refine g_iload X 3 dX7_film_52 rfl ?_
  refine g_aload_n X 0 dX7_film_54 rfl ?_
  refine g_getF X (f := (a3 + 12)) dX7_film_55 lf_X7_144 ha3 rfl (fn_4_1 ha3) ?_
  refine g_alen1 X (z := 43) dX7_film_58 (sf_4_1 ha3) rfl ?_
  refine g_icmp_ge X (tgt := 94) dX7_film_59 (by decide) h32v6 (by omega) (fun c1 => ?_) (fun c1 => ?_)
  · have h := h.1 c1
    refine g_aload X 2 dX7_film_94 rfl ?_
    refine g_getI X (z := 4) dX7_film_96 lf_X7_98 ha5 rfl rfl ?_
    obtain ⟨q2, h⟩ := h
    exact g_iret X hr hlk dX7_film_99 rfl ⟨_, rfl, q2, h⟩
  · have h := h.2 c1
    refine g_aload X 1 dX7_film_62 rfl ?_
    refine g_iload X 3 dX7_film_64 rfl ?_
    refine g_cVZ X (K := K_X2_hasPlace) [.int (iI v6)] [] dX7_film_66 lv_X7_267 rm_X7_film_X2_hasPlace ⟨by decide, by decide⟩ adA_id ha4 rfl rfl (Nat.le_of_ble_eq_true rfl) rfl h (fun s3 h => ?_) (fun s3 h => ?_)
    · skip
      refine g_if_eq X (tgt := 94) dX7_film_69 (by decide) (by omega) (fun hc => absurd hc (by decide)) (fun _ => ?_)
      refine g_aload X 1 dX7_film_72 rfl ?_
      refine g_getF X (f := (a4 + 3)) dX7_film_74 lf_X7_268 ha4 rfl (fn_2_0 ha4) ?_
      refine g_iload X 3 dX7_film_77 rfl ?_
      refine g_aload_n X 0 dX7_film_79 rfl ?_
      refine g_getF X (f := (a3 + 12)) dX7_film_80 lf_X7_144 ha3 rfl (fn_4_1 ha3) ?_
      refine g_iload X 3 dX7_film_83 rfl ?_
      obtain ⟨q4, h⟩ := h
      refine g_iald X dX7_film_85 (sf_4_1 ha3) q4.1 q4.2 ?_
      obtain ⟨q5, h⟩ := h
      refine g_i2l X dX7_film_86 q5 ?_
      obtain ⟨q6, h⟩ := h
      refine g_last X dX7_film_87 (sf_2_0 ha4) q6.1 q6.2 ?_
      refine g_iinc X (x := v6) (lv' := [(6, .int (iI (v6 + 1))), (3, .ref a3), (4, .ref a4), (5, .ref a5)]) 3 dX7_film_88 rfl (by decide) rfl ?_
      refine g_goto X (tgt := 52) dX7_film_91 (by decide) ?_
      exact g_sub (lv' := [(3, .ref a3), (4, .ref a4), (5, .ref a5), (6, .int (iI (v6 + 1)))]) [1, 2, 3, 0] rfl (h p l e s m args below meth c D cA ad X0 hr hlk)
    · skip
      refine g_if_eq X (tgt := 94) dX7_film_69 (by decide) (by omega) (fun _ => ?_) (fun hc => absurd hc (by decide))
      refine g_aload X 2 dX7_film_94 rfl ?_
      refine g_getI X (z := 4) dX7_film_96 lf_X7_98 ha5 rfl rfl ?_
      obtain ⟨q7, h⟩ := h
      exact g_iret X hr hlk dX7_film_99 rfl ⟨_, rfl, q7, h⟩
theorem bX7_get_0 {v1 : Int} {v2 : Int} {σ : ASt} {Q : Int → ASt → Prop}  (h : EvR 2 K_X7_rowAt [.ref 0, .int (iI v1)] σ (fun s1 => Q (-9223372036854775808) s1) (fun r2 s1 => EvZ K_X2_hasPlace [.ref r2, .int (iI v2)] s1 (fun s4 => ((0 : Int) ≤ v2 ∧ v2 < 60) ∧ i64 ((gL s4 (r2 + 3) v2)) ∧ Q (gL s4 (r2 + 3) v2) s4) (fun s4 => Q (-9223372036854775808) s4))) : Wx K_X7_get (QL Q) 0 [(0, .ref 0), (1, .int (iI v1)), (2, .int (iI v2))] [] σ := by
  intro p l e s m args below meth c D cA ad X0 hr hlk
  have X : Cx p s m args c (adA ad) D cA ad RX7 cX7_get 4 := X0
  refine g_aload_n X 0 dX7_get_0 rfl ?_
  refine g_iload_n X 1 dX7_get_1 rfl ?_
  refine g_cVR X (K := K_X7_rowAt) [.int (iI v1)] [] dX7_get_2 lv_X7_256 rm_X7_get_X7_rowAt ⟨by decide, by decide⟩ adA_id rfl rfl rfl (Nat.le_of_ble_eq_true rfl) rfl h (fun s1 h => ?_) (fun r2 s1 q3 h => ?_)
  · skip
    refine g_astore_nN X (lv' := [(3, .null), (0, .ref 0), (1, .int (iI v1)), (2, .int (iI v2))]) dX7_get_5 (by decide) rfl ?_
    refine g_aload_nN X 0 dX7_get_6 rfl ?_
    refine g_ifnullN X (tgt := 18) dX7_get_7 (by decide) ?_
    refine g_ldc2 X (z := (-9223372036854775808)) dX7_get_18 lc_X7_117 (by decide +kernel) ?_
    refine g_goto X (tgt := 30) dX7_get_21 (by decide) ?_
    exact g_lret X hr hlk dX7_get_30 ⟨_, rfl, (by omega), h⟩
  · skip
    refine g_astore_n X (lv' := [(3, .ref r2), (0, .ref 0), (1, .int (iI v1)), (2, .int (iI v2))]) dX7_get_5 (by decide) rfl ?_
    refine g_aload_n X 0 dX7_get_6 rfl ?_
    refine g_ifnull X dX7_get_7 ?_
    refine g_aload_n X 0 dX7_get_10 rfl ?_
    refine g_iload_n X 3 dX7_get_11 rfl ?_
    refine g_cVZ X (K := K_X2_hasPlace) [.int (iI v2)] [] dX7_get_12 lv_X7_267 rm_X7_get_X2_hasPlace ⟨by decide, by decide⟩ adA_id q3 rfl rfl (Nat.le_of_ble_eq_true rfl) rfl h (fun s4 h => ?_) (fun s4 h => ?_)
    · skip
      refine g_if_ne X (tgt := 24) dX7_get_15 (by decide) (by omega) (fun _ => ?_) (fun hc => absurd hc (by decide))
      refine g_aload_n X 0 dX7_get_24 rfl ?_
      refine g_getF X (f := (r2 + 3)) dX7_get_25 lf_X7_268 q3 rfl (fn_2_0 q3) ?_
      refine g_iload_n X 3 dX7_get_28 rfl ?_
      obtain ⟨q5, h⟩ := h
      refine g_lald X dX7_get_29 (sf_2_0 q3) q5.1 q5.2 ?_
      obtain ⟨q6, h⟩ := h
      exact g_lret X hr hlk dX7_get_30 ⟨_, rfl, q6, h⟩
    · skip
      refine g_if_ne X (tgt := 24) dX7_get_15 (by decide) (by omega) (fun hc => absurd hc (by decide)) (fun _ => ?_)
      refine g_ldc2 X (z := (-9223372036854775808)) dX7_get_18 lc_X7_117 (by decide +kernel) ?_
      refine g_goto X (tgt := 30) dX7_get_21 (by decide) ?_
      exact g_lret X hr hlk dX7_get_30 ⟨_, rfl, (by omega), h⟩
theorem eX7_get {v1 : Int} {v2 : Int} {σ : ASt} {Q : Int → ASt → Prop}  (h : EvR 2 K_X7_rowAt [.ref 0, .int (iI v1)] σ (fun s1 => Q (-9223372036854775808) s1) (fun r2 s1 => EvZ K_X2_hasPlace [.ref r2, .int (iI v2)] s1 (fun s4 => ((0 : Int) ≤ v2 ∧ v2 < 60) ∧ i64 ((gL s4 (r2 + 3) v2)) ∧ Q (gL s4 (r2 + 3) v2) s4) (fun s4 => Q (-9223372036854775808) s4))) : EvL K_X7_get [.ref 0, .int (iI v1), .int (iI v2)] σ Q := Ev.of rfl (Nat.le_of_ble_eq_true rfl) rfl (bX7_get_0  h)
theorem bX7_highestNotZero_0 {a0 : Nat} {σ : ASt} {Q : Int → ASt → Prop} (ha0 : shp a0 = (1, 0, 43)) (h : Wx K_X7_highestNotZero (QI Q) 5 [(0, .ref a0), (1, .int (iI (43 - 1)))] [] σ) : Wx K_X7_highestNotZero (QI Q) 0 [(0, .ref a0)] [] σ := by
  intro p l e s m args below meth c D cA ad X0 hr hlk
  have X : Cx p s m args c (adA ad) D cA ad RX7 cX7_highestNotZero 2 := X0
  refine g_aload_n X 0 dX7_highestNotZero_0 rfl ?_
  refine g_alen1 X (z := 43) dX7_highestNotZero_1 ha0 rfl ?_
  refine g_iconst X dX7_highestNotZero_2 ?_
  refine g_isub X dX7_highestNotZero_3 ?_
  refine g_istore_n X (lv' := [(1, .int (iI (43 - 1))), (0, .ref a0)]) dX7_highestNotZero_4 (by decide) rfl ?_
  exact g_sub (lv' := [(0, .ref a0), (1, .int (iI (43 - 1)))]) [1, 0] rfl (h p l e s m args below meth c D cA ad X0 hr hlk)
theorem eX7_highestNotZero {a0 : Nat} {σ : ASt} {Q : Int → ASt → Prop} (ha0 : shp a0 = (1, 0, 43)) (h : Wx K_X7_highestNotZero (QI Q) 5 [(0, .ref a0), (1, .int (iI (43 - 1)))] [] σ) : EvI K_X7_highestNotZero [.ref a0] σ Q := Ev.of rfl (Nat.le_of_ble_eq_true rfl) rfl (bX7_highestNotZero_0 ha0 h)
theorem bX7_highestNotZero_5 {a0 : Nat} {v1 : Int} {σ : ASt} {Q : Int → ASt → Prop} (ha0 : shp a0 = (1, 0, 43)) (h32v1 : i32 v1) (h : ((v1 < 0 → Q (-1) σ) ∧ (0 ≤ v1 → ((0 : Int) ≤ v1 ∧ v1 < 43) ∧ i32 ((gI σ a0 v1)) ∧ (((gI σ a0 v1) = 0 → Wx K_X7_highestNotZero (QI Q) 5 [(0, .ref a0), (1, .int (iI (v1 + (-1))))] [] σ) ∧ ((gI σ a0 v1) ≠ 0 → Q v1 σ))))) : Wx K_X7_highestNotZero (QI Q) 5 [(0, .ref a0), (1, .int (iI v1))] [] σ := by
  intro p l e s m args below meth c D cA ad X0 hr hlk
  have X : Cx p s m args c (adA ad) D cA ad RX7 cX7_highestNotZero 2 := X0
  refine g_iload_n X 1 dX7_highestNotZero_5 rfl ?_
  refine g_if_lt X (tgt := 23) dX7_highestNotZero_6 (by decide) h32v1 (fun c1 => ?_) (fun c1 => ?_)
  · have h := h.1 c1
    refine g_iconst X dX7_highestNotZero_23 ?_
    exact g_iret X hr hlk dX7_highestNotZero_24 rfl ⟨_, rfl, (by omega), h⟩
  · have h := h.2 c1
    refine g_aload_n X 0 dX7_highestNotZero_9 rfl ?_
    refine g_iload_n X 1 dX7_highestNotZero_10 rfl ?_
    obtain ⟨q2, h⟩ := h
    refine g_iald X dX7_highestNotZero_11 ha0 q2.1 q2.2 ?_
    obtain ⟨q3, h⟩ := h
    refine g_if_eq X (tgt := 17) dX7_highestNotZero_12 (by decide) q3 (fun c4 => ?_) (fun c4 => ?_)
    · have h := h.1 c4
      refine g_iinc X (x := v1) (lv' := [(1, .int (iI (v1 + (-1)))), (0, .ref a0)]) 1 dX7_highestNotZero_17 rfl (by decide) rfl ?_
      refine g_goto X (tgt := 5) dX7_highestNotZero_20 (by decide) ?_
      exact g_sub (lv' := [(0, .ref a0), (1, .int (iI (v1 + (-1))))]) [1, 0] rfl (h p l e s m args below meth c D cA ad X0 hr hlk)
    · have h := h.2 c4
      refine g_iload_n X 1 dX7_highestNotZero_15 rfl ?_
      exact g_iret X hr hlk dX7_highestNotZero_16 rfl ⟨_, rfl, h32v1, h⟩
theorem bX7_image_0 {σ : ASt} {Q : Int → ASt → Prop}  (h : EvV K_X7_carryState [.ref 1, .ref 3, .ref 2, .ref 4] σ (fun s1 => EvI K_X7_countReels [.ref 0] (sI s1 0 8 1) (fun x3 s2 => Q x3 s2))) : Wx K_X7_image (QI Q) 0 [(0, .ref 0)] [] σ := by
  intro p l e s m args below meth c D cA ad X0 hr hlk
  have X : Cx p s m args c (adA ad) D cA ad RX7 cX7_image 1 := X0
  refine g_aload_n X 0 dX7_image_0 rfl ?_
  refine g_getF X (f := 1) dX7_image_1 lf_X7_13 rfl rfl rfl ?_
  refine g_aload_n X 0 dX7_image_4 rfl ?_
  refine g_getF X (f := 3) dX7_image_5 lf_X7_19 rfl rfl rfl ?_
  refine g_aload_n X 0 dX7_image_8 rfl ?_
  refine g_getF X (f := 2) dX7_image_9 lf_X7_50 rfl rfl rfl ?_
  refine g_aload_n X 0 dX7_image_12 rfl ?_
  refine g_getF X (f := 4) dX7_image_13 lf_X7_53 rfl rfl rfl ?_
  refine g_cSV X (K := K_X7_carryState) [.ref 1, .ref 3, .ref 2, .ref 4] [] dX7_image_16 ls_X7_284 rm_X7_image_X7_carryState ⟨by decide, by decide⟩ adA_id rfl (Nat.le_of_ble_eq_true rfl) rfl h (fun s1 h => ?_)
  refine g_aload_n X 0 dX7_image_19 rfl ?_
  refine g_iconst X dX7_image_20 ?_
  refine g_putZ X (j := 8) (z := 8) dX7_image_21 lp_X7_56 rfl rfl rfl rfl rfl ?_
  refine g_aload_n X 0 dX7_image_24 rfl ?_
  refine g_cVI X (K := K_X7_countReels) [] [] dX7_image_25 lv_X7_288 rm_X7_image_X7_countReels ⟨by decide, by decide⟩ adA_id rfl rfl rfl (Nat.le_of_ble_eq_true rfl) rfl h (fun x3 s2 q4 h => ?_)
  exact g_iret X hr hlk dX7_image_28 rfl ⟨_, rfl, q4, h⟩
theorem eX7_image {σ : ASt} {Q : Int → ASt → Prop}  (h : EvV K_X7_carryState [.ref 1, .ref 3, .ref 2, .ref 4] σ (fun s1 => EvI K_X7_countReels [.ref 0] (sI s1 0 8 1) (fun x3 s2 => Q x3 s2))) : EvI K_X7_image [.ref 0] σ Q := Ev.of rfl (Nat.le_of_ble_eq_true rfl) rfl (bX7_image_0  h)
theorem bX7_isUnder_0 {v0 : Int} {v1 : Int} {σ : ASt} {QT QF : ASt → Prop} (h32v0 : i32 v0) (h32v1 : i32 v1) (h : ((v1 = 0 → QT σ) ∧ (v1 ≠ 0 → ((v0 = v1 → QT σ) ∧ (v0 ≠ v1 → ((v1 ≠ 1 → QF σ) ∧ (v1 = 1 → ((v0 = 0 → QF σ) ∧ (v0 ≠ 0 → QT σ))))))))) : Wx K_X7_isUnder (QZ QT QF) 0 [(0, .int (iI v0)), (1, .int (iI v1))] [] σ := by
  intro p l e s m args below meth c D cA ad X0 hr hlk
  have X : Cx p s m args c (adA ad) D cA ad RX7 cX7_isUnder 2 := X0
  refine g_iload_n X 1 dX7_isUnder_0 rfl ?_
  refine g_if_eq X (tgt := 18) dX7_isUnder_1 (by decide) h32v1 (fun c1 => ?_) (fun c1 => ?_)
  · have h := h.1 c1
    refine g_iconst X dX7_isUnder_18 ?_
    refine g_goto X (tgt := 23) dX7_isUnder_19 (by decide) ?_
    exact g_iret X hr hlk dX7_isUnder_23 rfl (Or.inl ⟨rfl, h⟩)
  · have h := h.2 c1
    refine g_iload_n X 0 dX7_isUnder_4 rfl ?_
    refine g_iload_n X 1 dX7_isUnder_5 rfl ?_
    refine g_icmp_eq X (tgt := 18) dX7_isUnder_6 (by decide) h32v0 h32v1 (fun c2 => ?_) (fun c2 => ?_)
    · have h := h.1 c2
      refine g_iconst X dX7_isUnder_18 ?_
      refine g_goto X (tgt := 23) dX7_isUnder_19 (by decide) ?_
      exact g_iret X hr hlk dX7_isUnder_23 rfl (Or.inl ⟨rfl, h⟩)
    · have h := h.2 c2
      refine g_iload_n X 1 dX7_isUnder_9 rfl ?_
      refine g_iconst X dX7_isUnder_10 ?_
      refine g_icmp_ne X (tgt := 22) dX7_isUnder_11 (by decide) h32v1 (by omega) (fun c3 => ?_) (fun c3 => ?_)
      · have h := h.1 c3
        refine g_iconst X dX7_isUnder_22 ?_
        exact g_iret X hr hlk dX7_isUnder_23 rfl (Or.inr ⟨rfl, h⟩)
      · have h := h.2 c3
        refine g_iload_n X 0 dX7_isUnder_14 rfl ?_
        refine g_if_eq X (tgt := 22) dX7_isUnder_15 (by decide) h32v0 (fun c4 => ?_) (fun c4 => ?_)
        · have h := h.1 c4
          refine g_iconst X dX7_isUnder_22 ?_
          exact g_iret X hr hlk dX7_isUnder_23 rfl (Or.inr ⟨rfl, h⟩)
        · have h := h.2 c4
          refine g_iconst X dX7_isUnder_18 ?_
          refine g_goto X (tgt := 23) dX7_isUnder_19 (by decide) ?_
          exact g_iret X hr hlk dX7_isUnder_23 rfl (Or.inl ⟨rfl, h⟩)
theorem eX7_isUnder {v0 : Int} {v1 : Int} {σ : ASt} {QT QF : ASt → Prop} (h32v0 : i32 v0) (h32v1 : i32 v1) (h : ((v1 = 0 → QT σ) ∧ (v1 ≠ 0 → ((v0 = v1 → QT σ) ∧ (v0 ≠ v1 → ((v1 ≠ 1 → QF σ) ∧ (v1 = 1 → ((v0 = 0 → QF σ) ∧ (v0 ≠ 0 → QT σ))))))))) : EvZ K_X7_isUnder [.int (iI v0), .int (iI v1)] σ QT QF := Ev.of rfl (Nat.le_of_ble_eq_true rfl) rfl (bX7_isUnder_0 h32v0 h32v1 h)
theorem bX7_lay_0 {v1 : Int} {v2 : Int} {v3 : Int} {σ : ASt} {Q : Int → ASt → Prop}  (h : EvR 0 K_X7_baseAt [.ref 0, .int (iI v2)] σ (fun s1 => EvR 2 K_X7_rowAt [.ref 0, .int (iI v3)] s1 (fun s4 => EvR 4 K_X7_reelAt [.ref 0, .int (iI v1)] s4 (fun s7 => Q (-2) s7) (fun r8 s7 => Q (-2) s7)) (fun r5 s4 => EvR 4 K_X7_reelAt [.ref 0, .int (iI v1)] s4 (fun s10 => Q (-2) s10) (fun r11 s10 => Q (-2) s10))) (fun r2 s1 => EvR 2 K_X7_rowAt [.ref 0, .int (iI v3)] s1 (fun s13 => EvR 4 K_X7_reelAt [.ref 0, .int (iI v1)] s13 (fun s16 => Q (-2) s16) (fun r17 s16 => Q (-2) s16)) (fun r14 s13 => EvR 4 K_X7_reelAt [.ref 0, .int (iI v1)] s13 (fun s19 => Q (-2) s19) (fun r20 s19 => EvZ K_X2_isMissing [.ref r14] s19 (fun s22 => Q (-11) s22) (fun s22 => EvZ K_X2_digitsInto [.ref r14, .ref 6, .int (iI (gI s22 r2 4))] s22 (fun s23 => EvI K_X7_fillReel [.ref 0, .int (iI v1), .ref r2, .ref 6] s23 (fun x25 s24 => Q x25 s24)) (fun s23 => Q (-3) s23)))))) : Wx K_X7_lay (QI Q) 0 [(0, .ref 0), (1, .int (iI v1)), (2, .int (iI v2)), (3, .int (iI v3))] [] σ := by
  intro p l e s m args below meth c D cA ad X0 hr hlk
  have X : Cx p s m args c (adA ad) D cA ad RX7 cX7_lay 6 := X0
  refine g_aload_n X 0 dX7_lay_0 rfl ?_
  refine g_iload_n X 2 dX7_lay_1 rfl ?_
  refine g_cVR X (K := K_X7_baseAt) [.int (iI v2)] [] dX7_lay_2 lv_X7_75 rm_X7_lay_X7_baseAt ⟨by decide, by decide⟩ adA_id rfl rfl rfl (Nat.le_of_ble_eq_true rfl) rfl h (fun s1 h => ?_) (fun r2 s1 q3 h => ?_)
  · skip
    refine g_astoreN X (lv' := [(4, .null), (0, .ref 0), (1, .int (iI v1)), (2, .int (iI v2)), (3, .int (iI v3))]) dX7_lay_5 (by decide) rfl ?_
    refine g_aload_n X 1 dX7_lay_7 rfl ?_
    refine g_iload_n X 4 dX7_lay_8 rfl ?_
    refine g_cVR X (K := K_X7_rowAt) [.int (iI v3)] [] dX7_lay_9 lv_X7_256 rm_X7_lay_X7_rowAt ⟨by decide, by decide⟩ adA_id rfl rfl rfl (Nat.le_of_ble_eq_true rfl) rfl h (fun s4 h => ?_) (fun r5 s4 q6 h => ?_)
    · skip
      refine g_astoreN X (lv' := [(5, .null), (4, .null), (0, .ref 0), (1, .int (iI v1)), (2, .int (iI v2)), (3, .int (iI v3))]) dX7_lay_12 (by decide) rfl ?_
      refine g_aload_n X 2 dX7_lay_14 rfl ?_
      refine g_iload_n X 3 dX7_lay_15 rfl ?_
      refine g_cVR X (K := K_X7_reelAt) [.int (iI v1)] [] dX7_lay_16 lv_X7_87 rm_X7_lay_X7_reelAt ⟨by decide, by decide⟩ adA_id rfl rfl rfl (Nat.le_of_ble_eq_true rfl) rfl h (fun s7 h => ?_) (fun r8 s7 q9 h => ?_)
      · skip
        refine g_ifnullN X (tgt := 32) dX7_lay_19 (by decide) ?_
        refine g_bipush X dX7_lay_32 (by decide +kernel) ?_
        exact g_iret X hr hlk dX7_lay_34 rfl ⟨_, rfl, (by omega), h⟩
      · skip
        refine g_ifnull X dX7_lay_19 ?_
        refine g_aloadN X 1 dX7_lay_22 rfl ?_
        refine g_ifnullN X (tgt := 32) dX7_lay_24 (by decide) ?_
        refine g_bipush X dX7_lay_32 (by decide +kernel) ?_
        exact g_iret X hr hlk dX7_lay_34 rfl ⟨_, rfl, (by omega), h⟩
    · skip
      refine g_astore X (lv' := [(5, .ref r5), (4, .null), (0, .ref 0), (1, .int (iI v1)), (2, .int (iI v2)), (3, .int (iI v3))]) dX7_lay_12 (by decide) rfl ?_
      refine g_aload_n X 2 dX7_lay_14 rfl ?_
      refine g_iload_n X 3 dX7_lay_15 rfl ?_
      refine g_cVR X (K := K_X7_reelAt) [.int (iI v1)] [] dX7_lay_16 lv_X7_87 rm_X7_lay_X7_reelAt ⟨by decide, by decide⟩ adA_id rfl rfl rfl (Nat.le_of_ble_eq_true rfl) rfl h (fun s10 h => ?_) (fun r11 s10 q12 h => ?_)
      · skip
        refine g_ifnullN X (tgt := 32) dX7_lay_19 (by decide) ?_
        refine g_bipush X dX7_lay_32 (by decide +kernel) ?_
        exact g_iret X hr hlk dX7_lay_34 rfl ⟨_, rfl, (by omega), h⟩
      · skip
        refine g_ifnull X dX7_lay_19 ?_
        refine g_aloadN X 1 dX7_lay_22 rfl ?_
        refine g_ifnullN X (tgt := 32) dX7_lay_24 (by decide) ?_
        refine g_bipush X dX7_lay_32 (by decide +kernel) ?_
        exact g_iret X hr hlk dX7_lay_34 rfl ⟨_, rfl, (by omega), h⟩
  · skip
    refine g_astore X (lv' := [(4, .ref r2), (0, .ref 0), (1, .int (iI v1)), (2, .int (iI v2)), (3, .int (iI v3))]) dX7_lay_5 (by decide) rfl ?_
    refine g_aload_n X 1 dX7_lay_7 rfl ?_
    refine g_iload_n X 4 dX7_lay_8 rfl ?_
    refine g_cVR X (K := K_X7_rowAt) [.int (iI v3)] [] dX7_lay_9 lv_X7_256 rm_X7_lay_X7_rowAt ⟨by decide, by decide⟩ adA_id rfl rfl rfl (Nat.le_of_ble_eq_true rfl) rfl h (fun s13 h => ?_) (fun r14 s13 q15 h => ?_)
    · skip
      refine g_astoreN X (lv' := [(5, .null), (4, .ref r2), (0, .ref 0), (1, .int (iI v1)), (2, .int (iI v2)), (3, .int (iI v3))]) dX7_lay_12 (by decide) rfl ?_
      refine g_aload_n X 2 dX7_lay_14 rfl ?_
      refine g_iload_n X 3 dX7_lay_15 rfl ?_
      refine g_cVR X (K := K_X7_reelAt) [.int (iI v1)] [] dX7_lay_16 lv_X7_87 rm_X7_lay_X7_reelAt ⟨by decide, by decide⟩ adA_id rfl rfl rfl (Nat.le_of_ble_eq_true rfl) rfl h (fun s16 h => ?_) (fun r17 s16 q18 h => ?_)
      · skip
        refine g_ifnullN X (tgt := 32) dX7_lay_19 (by decide) ?_
        refine g_bipush X dX7_lay_32 (by decide +kernel) ?_
        exact g_iret X hr hlk dX7_lay_34 rfl ⟨_, rfl, (by omega), h⟩
      · skip
        refine g_ifnull X dX7_lay_19 ?_
        refine g_aload X 1 dX7_lay_22 rfl ?_
        refine g_ifnull X dX7_lay_24 ?_
        refine g_aloadN X 0 dX7_lay_27 rfl ?_
        refine g_ifnonnullN X dX7_lay_29 ?_
        refine g_bipush X dX7_lay_32 (by decide +kernel) ?_
        exact g_iret X hr hlk dX7_lay_34 rfl ⟨_, rfl, (by omega), h⟩
    · skip
      refine g_astore X (lv' := [(5, .ref r14), (4, .ref r2), (0, .ref 0), (1, .int (iI v1)), (2, .int (iI v2)), (3, .int (iI v3))]) dX7_lay_12 (by decide) rfl ?_
      refine g_aload_n X 2 dX7_lay_14 rfl ?_
      refine g_iload_n X 3 dX7_lay_15 rfl ?_
      refine g_cVR X (K := K_X7_reelAt) [.int (iI v1)] [] dX7_lay_16 lv_X7_87 rm_X7_lay_X7_reelAt ⟨by decide, by decide⟩ adA_id rfl rfl rfl (Nat.le_of_ble_eq_true rfl) rfl h (fun s19 h => ?_) (fun r20 s19 q21 h => ?_)
      · skip
        refine g_ifnullN X (tgt := 32) dX7_lay_19 (by decide) ?_
        refine g_bipush X dX7_lay_32 (by decide +kernel) ?_
        exact g_iret X hr hlk dX7_lay_34 rfl ⟨_, rfl, (by omega), h⟩
      · skip
        refine g_ifnull X dX7_lay_19 ?_
        refine g_aload X 1 dX7_lay_22 rfl ?_
        refine g_ifnull X dX7_lay_24 ?_
        refine g_aload X 0 dX7_lay_27 rfl ?_
        refine g_ifnonnull X (tgt := 35) dX7_lay_29 (by decide) ?_
        refine g_aload X 0 dX7_lay_35 rfl ?_
        refine g_cVZ X (K := K_X2_isMissing) [] [] dX7_lay_37 lv_X7_263 rm_X7_lay_X2_isMissing ⟨by decide, by decide⟩ adA_id q15 rfl rfl (Nat.le_of_ble_eq_true rfl) rfl h (fun s22 h => ?_) (fun s22 h => ?_)
        · skip
          refine g_if_eq X (tgt := 46) dX7_lay_40 (by decide) (by omega) (fun hc => absurd hc (by decide)) (fun _ => ?_)
          refine g_bipush X dX7_lay_43 (by decide +kernel) ?_
          exact g_iret X hr hlk dX7_lay_45 rfl ⟨_, rfl, (by omega), h⟩
        · skip
          refine g_if_eq X (tgt := 46) dX7_lay_40 (by decide) (by omega) (fun _ => ?_) (fun hc => absurd hc (by decide))
          refine g_aload X 0 dX7_lay_46 rfl ?_
          refine g_aload_n X 2 dX7_lay_48 rfl ?_
          refine g_getF X (f := 6) dX7_lay_49 lf_X7_60 rfl rfl rfl ?_
          refine g_aload X 1 dX7_lay_52 rfl ?_
          refine g_getI X (z := 4) dX7_lay_54 lf_X7_98 q3 rfl rfl ?_
          refine g_cVZ X (K := K_X2_digitsInto) [.ref 6, .int (iI (gI s22 r2 4))] [] dX7_lay_57 lv_X7_280 rm_X7_lay_X2_digitsInto ⟨by decide, by decide⟩ adA_id q15 rfl rfl (Nat.le_of_ble_eq_true rfl) rfl h (fun s23 h => ?_) (fun s23 h => ?_)
          · skip
            refine g_if_eq X (tgt := 77) dX7_lay_60 (by decide) (by omega) (fun hc => absurd hc (by decide)) (fun _ => ?_)
            refine g_aload_n X 2 dX7_lay_63 rfl ?_
            refine g_iload_n X 3 dX7_lay_64 rfl ?_
            refine g_aload X 1 dX7_lay_65 rfl ?_
            refine g_aload_n X 2 dX7_lay_67 rfl ?_
            refine g_getF X (f := 6) dX7_lay_68 lf_X7_60 rfl rfl rfl ?_
            refine g_cVI X (K := K_X7_fillReel) [.int (iI v1), .ref r2, .ref 6] [] dX7_lay_71 lv_X7_137 rm_X7_lay_X7_fillReel ⟨by decide, by decide⟩ adA_id rfl rfl rfl (Nat.le_of_ble_eq_true rfl) rfl h (fun x25 s24 q26 h => ?_)
            refine g_goto X (tgt := 79) dX7_lay_74 (by decide) ?_
            exact g_iret X hr hlk dX7_lay_79 rfl ⟨_, rfl, q26, h⟩
          · skip
            refine g_if_eq X (tgt := 77) dX7_lay_60 (by decide) (by omega) (fun _ => ?_) (fun hc => absurd hc (by decide))
            refine g_bipush X dX7_lay_77 (by decide +kernel) ?_
            exact g_iret X hr hlk dX7_lay_79 rfl ⟨_, rfl, (by omega), h⟩
theorem eX7_lay {v1 : Int} {v2 : Int} {v3 : Int} {σ : ASt} {Q : Int → ASt → Prop}  (h : EvR 0 K_X7_baseAt [.ref 0, .int (iI v2)] σ (fun s1 => EvR 2 K_X7_rowAt [.ref 0, .int (iI v3)] s1 (fun s4 => EvR 4 K_X7_reelAt [.ref 0, .int (iI v1)] s4 (fun s7 => Q (-2) s7) (fun r8 s7 => Q (-2) s7)) (fun r5 s4 => EvR 4 K_X7_reelAt [.ref 0, .int (iI v1)] s4 (fun s10 => Q (-2) s10) (fun r11 s10 => Q (-2) s10))) (fun r2 s1 => EvR 2 K_X7_rowAt [.ref 0, .int (iI v3)] s1 (fun s13 => EvR 4 K_X7_reelAt [.ref 0, .int (iI v1)] s13 (fun s16 => Q (-2) s16) (fun r17 s16 => Q (-2) s16)) (fun r14 s13 => EvR 4 K_X7_reelAt [.ref 0, .int (iI v1)] s13 (fun s19 => Q (-2) s19) (fun r20 s19 => EvZ K_X2_isMissing [.ref r14] s19 (fun s22 => Q (-11) s22) (fun s22 => EvZ K_X2_digitsInto [.ref r14, .ref 6, .int (iI (gI s22 r2 4))] s22 (fun s23 => EvI K_X7_fillReel [.ref 0, .int (iI v1), .ref r2, .ref 6] s23 (fun x25 s24 => Q x25 s24)) (fun s23 => Q (-3) s23)))))) : EvI K_X7_lay [.ref 0, .int (iI v1), .int (iI v2), .int (iI v3)] σ Q := Ev.of rfl (Nat.le_of_ble_eq_true rfl) rfl (bX7_lay_0  h)
theorem bX7_like_0 {v1 : Int} {v2 : Int} {v3 : Int} {σ : ASt} {Q : Int → ASt → Prop} (h32v3 : i32 v3) (h : EvR 4 K_X7_reelAt [.ref 0, .int (iI v1)] σ (fun s1 => EvR 4 K_X7_reelAt [.ref 0, .int (iI v2)] s1 (fun s4 => Q (-2) s4) (fun r5 s4 => Q (-2) s4)) (fun r2 s1 => EvR 4 K_X7_reelAt [.ref 0, .int (iI v2)] s1 (fun s7 => Q (-2) s7) (fun r8 s7 => EvZ K_X7_isWithin [.int (iI v3), .int (iI 0), .int (iI 1)] s7 (fun s10 => ((gP s10 r2 0 = none → ((gP s10 r8 0 = none → Q (-11) s10) ∧ (∀ r13 : Nat, gP s10 r8 0 = some r13 → shp r13 = (0, 0, 0) ∧ Q (-11) s10))) ∧ (∀ r11 : Nat, gP s10 r2 0 = some r11 → shp r11 = (0, 0, 0) ∧ ((gP s10 r8 0 = none → Q (-11) s10) ∧ (∀ r17 : Nat, gP s10 r8 0 = some r17 → shp r17 = (0, 0, 0) ∧ ((v3 ≠ 0 → ((r11 ≠ r17 → Q 0 s10) ∧ (r11 = r17 → EvI K_X7_countUnlike [.ref (r2 + 12), .ref (r8 + 12)] s10 (fun x23 s22 => ((x23 ≠ 0 → Q 0 s22) ∧ (x23 = 0 → Q 1 s22)))))) ∧ (v3 = 0 → EvL K_X0_valueOf [.ref r11, .ref (r2 + 12)] s10 (fun x27 s26 => EvL K_X0_valueOf [.ref r17, .ref (r8 + 12)] s26 (fun x30 s29 => ((x27 ≠ x30 → Q 0 s29) ∧ (x27 = x30 → Q 1 s29))))))))))) (fun s10 => Q (-2) s10)))) : Wx K_X7_like (QI Q) 0 [(0, .ref 0), (1, .int (iI v1)), (2, .int (iI v2)), (3, .int (iI v3))] [] σ := by
  intro p l e s m args below meth c D cA ad X0 hr hlk
  have X : Cx p s m args c (adA ad) D cA ad RX7 cX7_like 9 := X0
  refine g_aload_n X 0 dX7_like_0 rfl ?_
  refine g_iload_n X 1 dX7_like_1 rfl ?_
  refine g_cVR X (K := K_X7_reelAt) [.int (iI v1)] [] dX7_like_2 lv_X7_87 rm_X7_like_X7_reelAt ⟨by decide, by decide⟩ adA_id rfl rfl rfl (Nat.le_of_ble_eq_true rfl) rfl h (fun s1 h => ?_) (fun r2 s1 q3 h => ?_)
  · skip
    refine g_astoreN X (lv' := [(4, .null), (0, .ref 0), (1, .int (iI v1)), (2, .int (iI v2)), (3, .int (iI v3))]) dX7_like_5 (by decide) rfl ?_
    refine g_aload_n X 1 dX7_like_7 rfl ?_
    refine g_iload_n X 3 dX7_like_8 rfl ?_
    refine g_cVR X (K := K_X7_reelAt) [.int (iI v2)] [] dX7_like_9 lv_X7_87 rm_X7_like_X7_reelAt ⟨by decide, by decide⟩ adA_id rfl rfl rfl (Nat.le_of_ble_eq_true rfl) rfl h (fun s4 h => ?_) (fun r5 s4 q6 h => ?_)
    · skip
      refine g_astoreN X (lv' := [(5, .null), (4, .null), (0, .ref 0), (1, .int (iI v1)), (2, .int (iI v2)), (3, .int (iI v3))]) dX7_like_12 (by decide) rfl ?_
      refine g_aloadN X 1 dX7_like_14 rfl ?_
      refine g_ifnullN X (tgt := 33) dX7_like_16 (by decide) ?_
      refine g_bipush X dX7_like_33 (by decide +kernel) ?_
      exact g_iret X hr hlk dX7_like_35 rfl ⟨_, rfl, (by omega), h⟩
    · skip
      refine g_astore X (lv' := [(5, .ref r5), (4, .null), (0, .ref 0), (1, .int (iI v1)), (2, .int (iI v2)), (3, .int (iI v3))]) dX7_like_12 (by decide) rfl ?_
      refine g_aloadN X 1 dX7_like_14 rfl ?_
      refine g_ifnullN X (tgt := 33) dX7_like_16 (by decide) ?_
      refine g_bipush X dX7_like_33 (by decide +kernel) ?_
      exact g_iret X hr hlk dX7_like_35 rfl ⟨_, rfl, (by omega), h⟩
  · skip
    refine g_astore X (lv' := [(4, .ref r2), (0, .ref 0), (1, .int (iI v1)), (2, .int (iI v2)), (3, .int (iI v3))]) dX7_like_5 (by decide) rfl ?_
    refine g_aload_n X 1 dX7_like_7 rfl ?_
    refine g_iload_n X 3 dX7_like_8 rfl ?_
    refine g_cVR X (K := K_X7_reelAt) [.int (iI v2)] [] dX7_like_9 lv_X7_87 rm_X7_like_X7_reelAt ⟨by decide, by decide⟩ adA_id rfl rfl rfl (Nat.le_of_ble_eq_true rfl) rfl h (fun s7 h => ?_) (fun r8 s7 q9 h => ?_)
    · skip
      refine g_astoreN X (lv' := [(5, .null), (4, .ref r2), (0, .ref 0), (1, .int (iI v1)), (2, .int (iI v2)), (3, .int (iI v3))]) dX7_like_12 (by decide) rfl ?_
      refine g_aload X 1 dX7_like_14 rfl ?_
      refine g_ifnull X dX7_like_16 ?_
      refine g_aloadN X 0 dX7_like_19 rfl ?_
      refine g_ifnullN X (tgt := 33) dX7_like_21 (by decide) ?_
      refine g_bipush X dX7_like_33 (by decide +kernel) ?_
      exact g_iret X hr hlk dX7_like_35 rfl ⟨_, rfl, (by omega), h⟩
    · skip
      refine g_astore X (lv' := [(5, .ref r8), (4, .ref r2), (0, .ref 0), (1, .int (iI v1)), (2, .int (iI v2)), (3, .int (iI v3))]) dX7_like_12 (by decide) rfl ?_
      refine g_aload X 1 dX7_like_14 rfl ?_
      refine g_ifnull X dX7_like_16 ?_
      refine g_aload X 0 dX7_like_19 rfl ?_
      refine g_ifnull X dX7_like_21 ?_
      refine g_iload_n X 5 dX7_like_24 rfl ?_
      refine g_iconst X dX7_like_25 ?_
      refine g_iconst X dX7_like_26 ?_
      refine g_cSZ X (K := K_X7_isWithin) [.int (iI v3), .int (iI 0), .int (iI 1)] [] dX7_like_27 ls_X7_102 rm_X7_like_X7_isWithin ⟨by decide, by decide⟩ adA_id rfl (Nat.le_of_ble_eq_true rfl) rfl h (fun s10 h => ?_) (fun s10 h => ?_)
      · skip
        refine g_if_ne X (tgt := 36) dX7_like_30 (by decide) (by omega) (fun _ => ?_) (fun hc => absurd hc (by decide))
        refine g_aload X 1 dX7_like_36 rfl ?_
        refine g_getP X dX7_like_38 lf_X7_91 q3 rfl (fun c12 => ?_) (fun r11 c12 => ?_)
        · have h := h.1 c12
          refine g_astoreN X (lv' := [(6, .null), (5, .ref r8), (4, .ref r2), (0, .ref 0), (1, .int (iI v1)), (2, .int (iI v2)), (3, .int (iI v3))]) dX7_like_41 (by decide) rfl ?_
          refine g_aload X 1 dX7_like_43 rfl ?_
          refine g_getP X dX7_like_45 lf_X7_91 q9 rfl (fun c14 => ?_) (fun r13 c14 => ?_)
          · have h := h.1 c14
            refine g_astoreN X (lv' := [(7, .null), (6, .null), (5, .ref r8), (4, .ref r2), (0, .ref 0), (1, .int (iI v1)), (2, .int (iI v2)), (3, .int (iI v3))]) dX7_like_48 (by decide) rfl ?_
            refine g_aloadN X 1 dX7_like_50 rfl ?_
            refine g_ifnullN X (tgt := 60) dX7_like_52 (by decide) ?_
            refine g_bipush X dX7_like_60 (by decide +kernel) ?_
            exact g_iret X hr hlk dX7_like_62 rfl ⟨_, rfl, (by omega), h⟩
          · obtain ⟨q15, h⟩ := h.2 r13 c14
            refine g_astore X (lv' := [(7, .ref r13), (6, .null), (5, .ref r8), (4, .ref r2), (0, .ref 0), (1, .int (iI v1)), (2, .int (iI v2)), (3, .int (iI v3))]) dX7_like_48 (by decide) rfl ?_
            refine g_aloadN X 1 dX7_like_50 rfl ?_
            refine g_ifnullN X (tgt := 60) dX7_like_52 (by decide) ?_
            refine g_bipush X dX7_like_60 (by decide +kernel) ?_
            exact g_iret X hr hlk dX7_like_62 rfl ⟨_, rfl, (by omega), h⟩
        · obtain ⟨q16, h⟩ := h.2 r11 c12
          refine g_astore X (lv' := [(6, .ref r11), (5, .ref r8), (4, .ref r2), (0, .ref 0), (1, .int (iI v1)), (2, .int (iI v2)), (3, .int (iI v3))]) dX7_like_41 (by decide) rfl ?_
          refine g_aload X 1 dX7_like_43 rfl ?_
          refine g_getP X dX7_like_45 lf_X7_91 q9 rfl (fun c18 => ?_) (fun r17 c18 => ?_)
          · have h := h.1 c18
            refine g_astoreN X (lv' := [(7, .null), (6, .ref r11), (5, .ref r8), (4, .ref r2), (0, .ref 0), (1, .int (iI v1)), (2, .int (iI v2)), (3, .int (iI v3))]) dX7_like_48 (by decide) rfl ?_
            refine g_aload X 1 dX7_like_50 rfl ?_
            refine g_ifnull X dX7_like_52 ?_
            refine g_aloadN X 0 dX7_like_55 rfl ?_
            refine g_ifnonnullN X dX7_like_57 ?_
            refine g_bipush X dX7_like_60 (by decide +kernel) ?_
            exact g_iret X hr hlk dX7_like_62 rfl ⟨_, rfl, (by omega), h⟩
          · obtain ⟨q19, h⟩ := h.2 r17 c18
            refine g_astore X (lv' := [(7, .ref r17), (6, .ref r11), (5, .ref r8), (4, .ref r2), (0, .ref 0), (1, .int (iI v1)), (2, .int (iI v2)), (3, .int (iI v3))]) dX7_like_48 (by decide) rfl ?_
            refine g_aload X 1 dX7_like_50 rfl ?_
            refine g_ifnull X dX7_like_52 ?_
            refine g_aload X 0 dX7_like_55 rfl ?_
            refine g_ifnonnull X (tgt := 63) dX7_like_57 (by decide) ?_
            refine g_iload_n X 7 dX7_like_63 rfl ?_
            refine g_if_ne X (tgt := 99) dX7_like_64 (by decide) h32v3 (fun c20 => ?_) (fun c20 => ?_)
            · have h := h.1 c20
              refine g_aload X 1 dX7_like_99 rfl ?_
              refine g_aload X 0 dX7_like_101 rfl ?_
              refine g_acmp_ne X (tgt := 126) dX7_like_103 (by decide) (shp_lt q16 (by decide)) (shp_lt q19 (by decide)) (fun c21 => ?_) (fun c21 => ?_)
              · have h := h.1 c21
                refine g_iconst X dX7_like_126 ?_
                refine g_istore X (lv' := [(8, .int (iI 0)), (7, .ref r17), (6, .ref r11), (5, .ref r8), (4, .ref r2), (0, .ref 0), (1, .int (iI v1)), (2, .int (iI v2)), (3, .int (iI v3))]) dX7_like_127 (by decide) rfl ?_
                refine g_iload X 0 dX7_like_129 rfl ?_
                refine g_if_eq X (tgt := 138) dX7_like_131 (by decide) (by omega) (fun _ => ?_) (fun hc => absurd hc (by decide))
                refine g_iconst X dX7_like_138 ?_
                exact g_iret X hr hlk dX7_like_139 rfl ⟨_, rfl, (by omega), h⟩
              · have h := h.2 c21
                refine g_aload X 3 dX7_like_106 rfl ?_
                refine g_getF X (f := (r2 + 12)) dX7_like_108 lf_X7_144 q3 rfl (fn_4_1 q3) ?_
                refine g_aload X 2 dX7_like_111 rfl ?_
                refine g_getF X (f := (r8 + 12)) dX7_like_113 lf_X7_144 q9 rfl (fn_4_1 q9) ?_
                refine g_cSI X (K := K_X7_countUnlike) [.ref (r2 + 12), .ref (r8 + 12)] [] dX7_like_116 ls_X7_209 rm_X7_like_X7_countUnlike ⟨by decide, by decide⟩ adA_id rfl (Nat.le_of_ble_eq_true rfl) rfl h (fun x23 s22 q24 h => ?_)
                refine g_if_ne X (tgt := 126) dX7_like_119 (by decide) q24 (fun c25 => ?_) (fun c25 => ?_)
                · have h := h.1 c25
                  refine g_iconst X dX7_like_126 ?_
                  refine g_istore X (lv' := [(8, .int (iI 0)), (7, .ref r17), (6, .ref r11), (5, .ref r8), (4, .ref r2), (0, .ref 0), (1, .int (iI v1)), (2, .int (iI v2)), (3, .int (iI v3))]) dX7_like_127 (by decide) rfl ?_
                  refine g_iload X 0 dX7_like_129 rfl ?_
                  refine g_if_eq X (tgt := 138) dX7_like_131 (by decide) (by omega) (fun _ => ?_) (fun hc => absurd hc (by decide))
                  refine g_iconst X dX7_like_138 ?_
                  exact g_iret X hr hlk dX7_like_139 rfl ⟨_, rfl, (by omega), h⟩
                · have h := h.2 c25
                  refine g_iconst X dX7_like_122 ?_
                  refine g_goto X (tgt := 127) dX7_like_123 (by decide) ?_
                  refine g_istore X (lv' := [(8, .int (iI 1)), (7, .ref r17), (6, .ref r11), (5, .ref r8), (4, .ref r2), (0, .ref 0), (1, .int (iI v1)), (2, .int (iI v2)), (3, .int (iI v3))]) dX7_like_127 (by decide) rfl ?_
                  refine g_iload X 0 dX7_like_129 rfl ?_
                  refine g_if_eq X (tgt := 138) dX7_like_131 (by decide) (by omega) (fun hc => absurd hc (by decide)) (fun _ => ?_)
                  refine g_iconst X dX7_like_134 ?_
                  refine g_goto X (tgt := 139) dX7_like_135 (by decide) ?_
                  exact g_iret X hr hlk dX7_like_139 rfl ⟨_, rfl, (by omega), h⟩
            · have h := h.2 c20
              refine g_aload X 1 dX7_like_67 rfl ?_
              refine g_aload X 3 dX7_like_69 rfl ?_
              refine g_getF X (f := (r2 + 12)) dX7_like_71 lf_X7_144 q3 rfl (fn_4_1 q3) ?_
              refine g_cVL X (K := K_X0_valueOf) [.ref (r2 + 12)] [] dX7_like_74 lv_X7_158 rm_X7_like_X0_valueOf ⟨by decide, by decide⟩ adA_id q16 rfl rfl (Nat.le_of_ble_eq_true rfl) rfl h (fun x27 s26 q28 h => ?_)
              refine g_aload X 0 dX7_like_77 rfl ?_
              refine g_aload X 2 dX7_like_79 rfl ?_
              refine g_getF X (f := (r8 + 12)) dX7_like_81 lf_X7_144 q9 rfl (fn_4_1 q9) ?_
              refine g_cVL X (K := K_X0_valueOf) [.ref (r8 + 12)] [.long (lI x27)] dX7_like_84 lv_X7_158 rm_X7_like_X0_valueOf ⟨by decide, by decide⟩ adA_id q19 rfl rfl (Nat.le_of_ble_eq_true rfl) rfl h (fun x30 s29 q31 h => ?_)
              refine g_lc_ne X (tgt := 95) dX7_like_87 dX7_like_88 (by decide) q28 q31 (fun c32 => ?_) (fun c32 => ?_)
              · have h := h.1 c32
                refine g_iconst X dX7_like_95 ?_
                refine g_goto X (tgt := 127) dX7_like_96 (by decide) ?_
                refine g_istore X (lv' := [(8, .int (iI 0)), (7, .ref r17), (6, .ref r11), (5, .ref r8), (4, .ref r2), (0, .ref 0), (1, .int (iI v1)), (2, .int (iI v2)), (3, .int (iI v3))]) dX7_like_127 (by decide) rfl ?_
                refine g_iload X 0 dX7_like_129 rfl ?_
                refine g_if_eq X (tgt := 138) dX7_like_131 (by decide) (by omega) (fun _ => ?_) (fun hc => absurd hc (by decide))
                refine g_iconst X dX7_like_138 ?_
                exact g_iret X hr hlk dX7_like_139 rfl ⟨_, rfl, (by omega), h⟩
              · have h := h.2 c32
                refine g_iconst X dX7_like_91 ?_
                refine g_goto X (tgt := 127) dX7_like_92 (by decide) ?_
                refine g_istore X (lv' := [(8, .int (iI 1)), (7, .ref r17), (6, .ref r11), (5, .ref r8), (4, .ref r2), (0, .ref 0), (1, .int (iI v1)), (2, .int (iI v2)), (3, .int (iI v3))]) dX7_like_127 (by decide) rfl ?_
                refine g_iload X 0 dX7_like_129 rfl ?_
                refine g_if_eq X (tgt := 138) dX7_like_131 (by decide) (by omega) (fun hc => absurd hc (by decide)) (fun _ => ?_)
                refine g_iconst X dX7_like_134 ?_
                refine g_goto X (tgt := 139) dX7_like_135 (by decide) ?_
                exact g_iret X hr hlk dX7_like_139 rfl ⟨_, rfl, (by omega), h⟩
      · skip
        refine g_if_ne X (tgt := 36) dX7_like_30 (by decide) (by omega) (fun hc => absurd hc (by decide)) (fun _ => ?_)
        refine g_bipush X dX7_like_33 (by decide +kernel) ?_
        exact g_iret X hr hlk dX7_like_35 rfl ⟨_, rfl, (by omega), h⟩
theorem eX7_like {v1 : Int} {v2 : Int} {v3 : Int} {σ : ASt} {Q : Int → ASt → Prop} (h32v3 : i32 v3) (h : EvR 4 K_X7_reelAt [.ref 0, .int (iI v1)] σ (fun s1 => EvR 4 K_X7_reelAt [.ref 0, .int (iI v2)] s1 (fun s4 => Q (-2) s4) (fun r5 s4 => Q (-2) s4)) (fun r2 s1 => EvR 4 K_X7_reelAt [.ref 0, .int (iI v2)] s1 (fun s7 => Q (-2) s7) (fun r8 s7 => EvZ K_X7_isWithin [.int (iI v3), .int (iI 0), .int (iI 1)] s7 (fun s10 => ((gP s10 r2 0 = none → ((gP s10 r8 0 = none → Q (-11) s10) ∧ (∀ r13 : Nat, gP s10 r8 0 = some r13 → shp r13 = (0, 0, 0) ∧ Q (-11) s10))) ∧ (∀ r11 : Nat, gP s10 r2 0 = some r11 → shp r11 = (0, 0, 0) ∧ ((gP s10 r8 0 = none → Q (-11) s10) ∧ (∀ r17 : Nat, gP s10 r8 0 = some r17 → shp r17 = (0, 0, 0) ∧ ((v3 ≠ 0 → ((r11 ≠ r17 → Q 0 s10) ∧ (r11 = r17 → EvI K_X7_countUnlike [.ref (r2 + 12), .ref (r8 + 12)] s10 (fun x23 s22 => ((x23 ≠ 0 → Q 0 s22) ∧ (x23 = 0 → Q 1 s22)))))) ∧ (v3 = 0 → EvL K_X0_valueOf [.ref r11, .ref (r2 + 12)] s10 (fun x27 s26 => EvL K_X0_valueOf [.ref r17, .ref (r8 + 12)] s26 (fun x30 s29 => ((x27 ≠ x30 → Q 0 s29) ∧ (x27 = x30 → Q 1 s29))))))))))) (fun s10 => Q (-2) s10)))) : EvI K_X7_like [.ref 0, .int (iI v1), .int (iI v2), .int (iI v3)] σ Q := Ev.of rfl (Nat.le_of_ble_eq_true rfl) rfl (bX7_like_0 h32v3 h)
theorem bX7_of_0 {v1 : Int} {v2 : Int} {σ : ASt} {Q : Int → ASt → Prop} (h32v2 : i32 v2) (h : EvR 0 K_X7_baseAt [.ref 0, .int (iI v1)] σ (fun s1 => Q (-2) s1) (fun r2 s1 => EvZ K_X7_isWithin [.int (iI v2), .int (iI 0), .int (iI 2)] s1 (fun s4 => ((v2 ≠ 0 → ((v2 ≠ 1 → i32 ((gI s4 r2 4)) ∧ Q (gI s4 r2 4) s4) ∧ (v2 = 1 → i32 ((gI s4 r2 3)) ∧ Q (gI s4 r2 3) s4))) ∧ (v2 = 0 → EvI K_X0_kind [.ref r2] s4 (fun x10 s9 => Q x10 s9)))) (fun s4 => Q (-2) s4))) : Wx K_X7_of (QI Q) 0 [(0, .ref 0), (1, .int (iI v1)), (2, .int (iI v2))] [] σ := by
  intro p l e s m args below meth c D cA ad X0 hr hlk
  have X : Cx p s m args c (adA ad) D cA ad RX7 cX7_of 4 := X0
  refine g_aload_n X 0 dX7_of_0 rfl ?_
  refine g_iload_n X 1 dX7_of_1 rfl ?_
  refine g_cVR X (K := K_X7_baseAt) [.int (iI v1)] [] dX7_of_2 lv_X7_75 rm_X7_of_X7_baseAt ⟨by decide, by decide⟩ adA_id rfl rfl rfl (Nat.le_of_ble_eq_true rfl) rfl h (fun s1 h => ?_) (fun r2 s1 q3 h => ?_)
  · skip
    refine g_astore_nN X (lv' := [(3, .null), (0, .ref 0), (1, .int (iI v1)), (2, .int (iI v2))]) dX7_of_5 (by decide) rfl ?_
    refine g_aload_nN X 0 dX7_of_6 rfl ?_
    refine g_ifnullN X (tgt := 19) dX7_of_7 (by decide) ?_
    refine g_bipush X dX7_of_19 (by decide +kernel) ?_
    exact g_iret X hr hlk dX7_of_21 rfl ⟨_, rfl, (by omega), h⟩
  · skip
    refine g_astore_n X (lv' := [(3, .ref r2), (0, .ref 0), (1, .int (iI v1)), (2, .int (iI v2))]) dX7_of_5 (by decide) rfl ?_
    refine g_aload_n X 0 dX7_of_6 rfl ?_
    refine g_ifnull X dX7_of_7 ?_
    refine g_iload_n X 3 dX7_of_10 rfl ?_
    refine g_iconst X dX7_of_11 ?_
    refine g_iconst X dX7_of_12 ?_
    refine g_cSZ X (K := K_X7_isWithin) [.int (iI v2), .int (iI 0), .int (iI 2)] [] dX7_of_13 ls_X7_102 rm_X7_of_X7_isWithin ⟨by decide, by decide⟩ adA_id rfl (Nat.le_of_ble_eq_true rfl) rfl h (fun s4 h => ?_) (fun s4 h => ?_)
    · skip
      refine g_if_ne X (tgt := 22) dX7_of_16 (by decide) (by omega) (fun _ => ?_) (fun hc => absurd hc (by decide))
      refine g_iload_n X 3 dX7_of_22 rfl ?_
      refine g_if_ne X (tgt := 31) dX7_of_23 (by decide) h32v2 (fun c5 => ?_) (fun c5 => ?_)
      · have h := h.1 c5
        refine g_iload_n X 3 dX7_of_31 rfl ?_
        refine g_iconst X dX7_of_32 ?_
        refine g_icmp_ne X (tgt := 43) dX7_of_33 (by decide) h32v2 (by omega) (fun c6 => ?_) (fun c6 => ?_)
        · have h := h.1 c6
          refine g_aload_n X 0 dX7_of_43 rfl ?_
          refine g_getI X (z := 4) dX7_of_44 lf_X7_98 q3 rfl rfl ?_
          obtain ⟨q7, h⟩ := h
          exact g_iret X hr hlk dX7_of_47 rfl ⟨_, rfl, q7, h⟩
        · have h := h.2 c6
          refine g_aload_n X 0 dX7_of_36 rfl ?_
          refine g_getI X (z := 3) dX7_of_37 lf_X7_110 q3 rfl rfl ?_
          refine g_goto X (tgt := 47) dX7_of_40 (by decide) ?_
          obtain ⟨q8, h⟩ := h
          exact g_iret X hr hlk dX7_of_47 rfl ⟨_, rfl, q8, h⟩
      · have h := h.2 c5
        refine g_aload_n X 0 dX7_of_26 rfl ?_
        refine g_cVI X (K := K_X0_kind) [] [] dX7_of_27 lv_X7_106 rm_X7_of_X0_kind ⟨by decide, by decide⟩ adA_id q3 rfl rfl (Nat.le_of_ble_eq_true rfl) rfl h (fun x10 s9 q11 h => ?_)
        exact g_iret X hr hlk dX7_of_30 rfl ⟨_, rfl, q11, h⟩
    · skip
      refine g_if_ne X (tgt := 22) dX7_of_16 (by decide) (by omega) (fun hc => absurd hc (by decide)) (fun _ => ?_)
      refine g_bipush X dX7_of_19 (by decide +kernel) ?_
      exact g_iret X hr hlk dX7_of_21 rfl ⟨_, rfl, (by omega), h⟩
theorem eX7_of {v1 : Int} {v2 : Int} {σ : ASt} {Q : Int → ASt → Prop} (h32v2 : i32 v2) (h : EvR 0 K_X7_baseAt [.ref 0, .int (iI v1)] σ (fun s1 => Q (-2) s1) (fun r2 s1 => EvZ K_X7_isWithin [.int (iI v2), .int (iI 0), .int (iI 2)] s1 (fun s4 => ((v2 ≠ 0 → ((v2 ≠ 1 → i32 ((gI s4 r2 4)) ∧ Q (gI s4 r2 4) s4) ∧ (v2 = 1 → i32 ((gI s4 r2 3)) ∧ Q (gI s4 r2 3) s4))) ∧ (v2 = 0 → EvI K_X0_kind [.ref r2] s4 (fun x10 s9 => Q x10 s9)))) (fun s4 => Q (-2) s4))) : EvI K_X7_of [.ref 0, .int (iI v1), .int (iI v2)] σ Q := Ev.of rfl (Nat.le_of_ble_eq_true rfl) rfl (bX7_of_0 h32v2 h)
theorem bX7_turnTo_0 {v1 : Int} {a2 : Nat} {a3 : Nat} {v4 : Int} {σ : ASt} {Q : Int → ASt → Prop} (ha2 : shp a2 = (0, 0, 0)) (ha3 : shp a3 = (1, 0, 43)) (h : EvV K_X1_keep [.ref 11, .int (iI v1), .ref a3] σ (fun s1 => EvV K_X0_greedyInto [.ref a2, .ref 6, .long (lI v4)] s1 (fun s2 => EvI K_X7_countUnlike [.ref a3, .ref 6] s2 (fun x4 s3 => EvV K_X7_copyDigits [.ref 6, .ref a3] s3 (fun s6 => Q x4 s6))))) : Wx K_X7_turnTo (QI Q) 0 [(0, .ref 0), (1, .int (iI v1)), (2, .ref a2), (3, .ref a3), (4, .long (lI v4))] [] σ := by
  intro p l e s m args below meth c D cA ad X0 hr hlk
  have X : Cx p s m args c (adA ad) D cA ad RX7 cX7_turnTo 7 := X0
  refine g_aload_n X 0 dX7_turnTo_0 rfl ?_
  refine g_getF X (f := 11) dX7_turnTo_1 lf_X7_39 rfl rfl rfl ?_
  refine g_iload_n X 1 dX7_turnTo_4 rfl ?_
  refine g_aload_n X 3 dX7_turnTo_5 rfl ?_
  refine g_cVV X (K := K_X1_keep) [.int (iI v1), .ref a3] [] dX7_turnTo_6 lv_X7_162 rm_X7_turnTo_X1_keep ⟨by decide, by decide⟩ adA_id rfl rfl rfl (Nat.le_of_ble_eq_true rfl) rfl h (fun s1 h => ?_)
  refine g_aload_n X 2 dX7_turnTo_9 rfl ?_
  refine g_aload_n X 0 dX7_turnTo_10 rfl ?_
  refine g_getF X (f := 6) dX7_turnTo_11 lf_X7_60 rfl rfl rfl ?_
  refine g_lload X 4 dX7_turnTo_14 rfl ?_
  refine g_cVV X (K := K_X0_greedyInto) [.ref 6, .long (lI v4)] [] dX7_turnTo_16 lv_X7_133 rm_X7_turnTo_X0_greedyInto ⟨by decide, by decide⟩ adA_id ha2 rfl rfl (Nat.le_of_ble_eq_true rfl) rfl h (fun s2 h => ?_)
  refine g_aload_n X 3 dX7_turnTo_19 rfl ?_
  refine g_aload_n X 0 dX7_turnTo_20 rfl ?_
  refine g_getF X (f := 6) dX7_turnTo_21 lf_X7_60 rfl rfl rfl ?_
  refine g_cSI X (K := K_X7_countUnlike) [.ref a3, .ref 6] [] dX7_turnTo_24 ls_X7_209 rm_X7_turnTo_X7_countUnlike ⟨by decide, by decide⟩ adA_id rfl (Nat.le_of_ble_eq_true rfl) rfl h (fun x4 s3 q5 h => ?_)
  refine g_istore X (lv' := [(6, .int (iI x4)), (0, .ref 0), (1, .int (iI v1)), (2, .ref a2), (3, .ref a3), (4, .long (lI v4))]) dX7_turnTo_27 (by decide) rfl ?_
  refine g_aload_n X 1 dX7_turnTo_29 rfl ?_
  refine g_getF X (f := 6) dX7_turnTo_30 lf_X7_60 rfl rfl rfl ?_
  refine g_aload_n X 4 dX7_turnTo_33 rfl ?_
  refine g_cSV X (K := K_X7_copyDigits) [.ref 6, .ref a3] [] dX7_turnTo_34 ls_X7_185 rm_X7_turnTo_X7_copyDigits ⟨by decide, by decide⟩ adA_id rfl (Nat.le_of_ble_eq_true rfl) rfl h (fun s6 h => ?_)
  refine g_iload X 0 dX7_turnTo_37 rfl ?_
  exact g_iret X hr hlk dX7_turnTo_39 rfl ⟨_, rfl, q5, h⟩
theorem eX7_turnTo {v1 : Int} {a2 : Nat} {a3 : Nat} {v4 : Int} {σ : ASt} {Q : Int → ASt → Prop} (ha2 : shp a2 = (0, 0, 0)) (ha3 : shp a3 = (1, 0, 43)) (h : EvV K_X1_keep [.ref 11, .int (iI v1), .ref a3] σ (fun s1 => EvV K_X0_greedyInto [.ref a2, .ref 6, .long (lI v4)] s1 (fun s2 => EvI K_X7_countUnlike [.ref a3, .ref 6] s2 (fun x4 s3 => EvV K_X7_copyDigits [.ref 6, .ref a3] s3 (fun s6 => Q x4 s6))))) : EvI K_X7_turnTo [.ref 0, .int (iI v1), .ref a2, .ref a3, .long (lI v4)] σ Q := Ev.of rfl (Nat.le_of_ble_eq_true rfl) rfl (bX7_turnTo_0 ha2 ha3 h)
theorem bX7_on_0 {v1 : Int} {v2 : Int} {σ : ASt} {Q : Int → ASt → Prop} (h32v2 : i32 v2) (h : EvR 4 K_X7_reelAt [.ref 0, .int (iI v1)] σ (fun s1 => Q (-2) s1) (fun r2 s1 => EvZ K_X7_isWithin [.int (iI v2), .int (iI (-100000)), .int (iI 100000)] s1 (fun s4 => ((gP s4 r2 0 = none → Q (-11) s4) ∧ (∀ r5 : Nat, gP s4 r2 0 = some r5 → shp r5 = (0, 0, 0) ∧ EvZ K_X0_allows [.ref r5, .ref (r2 + 12)] s4 (fun s8 => EvL K_X0_valueOf [.ref r5, .ref (r2 + 12)] s8 (fun x10 s9 => i64 ((x10 + v2)) ∧ (((x10 + v2) < 0 → Q (-4) s9) ∧ (0 ≤ (x10 + v2) → i64 ((gL s9 r5 5)) ∧ (((x10 + v2) ≤ (gL s9 r5 5) → EvI K_X7_turnTo [.ref 0, .int (iI v1), .ref r5, .ref (r2 + 12), .long (lI (x10 + v2))] s9 (fun x17 s16 => Q x17 s16)) ∧ ((gL s9 r5 5) < (x10 + v2) → Q (-4) s9)))))) (fun s8 => Q (-3) s8)))) (fun s4 => Q (-2) s4))) : Wx K_X7_on (QI Q) 0 [(0, .ref 0), (1, .int (iI v1)), (2, .int (iI v2))] [] σ := by
  intro p l e s m args below meth c D cA ad X0 hr hlk
  have X : Cx p s m args c (adA ad) D cA ad RX7 cX7_on 7 := X0
  refine g_aload_n X 0 dX7_on_0 rfl ?_
  refine g_iload_n X 1 dX7_on_1 rfl ?_
  refine g_cVR X (K := K_X7_reelAt) [.int (iI v1)] [] dX7_on_2 lv_X7_87 rm_X7_on_X7_reelAt ⟨by decide, by decide⟩ adA_id rfl rfl rfl (Nat.le_of_ble_eq_true rfl) rfl h (fun s1 h => ?_) (fun r2 s1 q3 h => ?_)
  · skip
    refine g_astore_nN X (lv' := [(3, .null), (0, .ref 0), (1, .int (iI v1)), (2, .int (iI v2))]) dX7_on_5 (by decide) rfl ?_
    refine g_aload_nN X 0 dX7_on_6 rfl ?_
    refine g_ifnullN X (tgt := 21) dX7_on_7 (by decide) ?_
    refine g_bipush X dX7_on_21 (by decide +kernel) ?_
    exact g_iret X hr hlk dX7_on_23 rfl ⟨_, rfl, (by omega), h⟩
  · skip
    refine g_astore_n X (lv' := [(3, .ref r2), (0, .ref 0), (1, .int (iI v1)), (2, .int (iI v2))]) dX7_on_5 (by decide) rfl ?_
    refine g_aload_n X 0 dX7_on_6 rfl ?_
    refine g_ifnull X dX7_on_7 ?_
    refine g_iload_n X 3 dX7_on_10 rfl ?_
    refine g_ldc X (z := (-100000)) dX7_on_11 lc_X7_189 (by decide +kernel) ?_
    refine g_ldc X (z := 100000) dX7_on_13 lc_X7_190 (by decide +kernel) ?_
    refine g_cSZ X (K := K_X7_isWithin) [.int (iI v2), .int (iI (-100000)), .int (iI 100000)] [] dX7_on_15 ls_X7_102 rm_X7_on_X7_isWithin ⟨by decide, by decide⟩ adA_id rfl (Nat.le_of_ble_eq_true rfl) rfl h (fun s4 h => ?_) (fun s4 h => ?_)
    · skip
      refine g_if_ne X (tgt := 24) dX7_on_18 (by decide) (by omega) (fun _ => ?_) (fun hc => absurd hc (by decide))
      refine g_aload_n X 0 dX7_on_24 rfl ?_
      refine g_getP X dX7_on_25 lf_X7_91 q3 rfl (fun c6 => ?_) (fun r5 c6 => ?_)
      · have h := h.1 c6
        refine g_astoreN X (lv' := [(4, .null), (3, .ref r2), (0, .ref 0), (1, .int (iI v1)), (2, .int (iI v2))]) dX7_on_28 (by decide) rfl ?_
        refine g_aloadN X 0 dX7_on_30 rfl ?_
        refine g_ifnonnullN X dX7_on_32 ?_
        refine g_bipush X dX7_on_35 (by decide +kernel) ?_
        exact g_iret X hr hlk dX7_on_37 rfl ⟨_, rfl, (by omega), h⟩
      · obtain ⟨q7, h⟩ := h.2 r5 c6
        refine g_astore X (lv' := [(4, .ref r5), (3, .ref r2), (0, .ref 0), (1, .int (iI v1)), (2, .int (iI v2))]) dX7_on_28 (by decide) rfl ?_
        refine g_aload X 0 dX7_on_30 rfl ?_
        refine g_ifnonnull X (tgt := 38) dX7_on_32 (by decide) ?_
        refine g_aload X 0 dX7_on_38 rfl ?_
        refine g_aload_n X 1 dX7_on_40 rfl ?_
        refine g_getF X (f := (r2 + 12)) dX7_on_41 lf_X7_144 q3 rfl (fn_4_1 q3) ?_
        refine g_cVZ X (K := K_X0_allows) [.ref (r2 + 12)] [] dX7_on_44 lv_X7_147 rm_X7_on_X0_allows ⟨by decide, by decide⟩ adA_id q7 rfl rfl (Nat.le_of_ble_eq_true rfl) rfl h (fun s8 h => ?_) (fun s8 h => ?_)
        · skip
          refine g_if_ne X (tgt := 53) dX7_on_47 (by decide) (by omega) (fun _ => ?_) (fun hc => absurd hc (by decide))
          refine g_aload X 0 dX7_on_53 rfl ?_
          refine g_aload_n X 1 dX7_on_55 rfl ?_
          refine g_getF X (f := (r2 + 12)) dX7_on_56 lf_X7_144 q3 rfl (fn_4_1 q3) ?_
          refine g_cVL X (K := K_X0_valueOf) [.ref (r2 + 12)] [] dX7_on_59 lv_X7_158 rm_X7_on_X0_valueOf ⟨by decide, by decide⟩ adA_id q7 rfl rfl (Nat.le_of_ble_eq_true rfl) rfl h (fun x10 s9 q11 h => ?_)
          refine g_iload_n X 4 dX7_on_62 rfl ?_
          refine g_i2l X dX7_on_63 h32v2 ?_
          refine g_ladd X dX7_on_64 ?_
          refine g_lstore X (lv' := [(5, .long (lI (x10 + v2))), (4, .ref r5), (3, .ref r2), (0, .ref 0), (1, .int (iI v1)), (2, .int (iI v2))]) dX7_on_65 (by decide) rfl ?_
          refine g_lload X 0 dX7_on_67 rfl ?_
          refine g_lconst X (z := 0) dX7_on_69 (by decide +kernel) ?_
          obtain ⟨q12, h⟩ := h
          refine g_lc_lt X (tgt := 85) dX7_on_70 dX7_on_71 (by decide) q12 (by omega) (fun c13 => ?_) (fun c13 => ?_)
          · have h := h.1 c13
            refine g_bipush X dX7_on_85 (by decide +kernel) ?_
            refine g_goto X (tgt := 103) dX7_on_87 (by decide) ?_
            exact g_iret X hr hlk dX7_on_103 rfl ⟨_, rfl, (by omega), h⟩
          · have h := h.2 c13
            refine g_lload X 0 dX7_on_74 rfl ?_
            refine g_aload X 1 dX7_on_76 rfl ?_
            refine g_getL X (z := 5) dX7_on_78 lf_X7_126 q7 rfl rfl ?_
            obtain ⟨q14, h⟩ := h
            refine g_lc_le X (tgt := 90) dX7_on_81 dX7_on_82 (by decide) q12 q14 (fun c15 => ?_) (fun c15 => ?_)
            · have h := h.1 c15
              refine g_aload_n X 3 dX7_on_90 rfl ?_
              refine g_iload_n X 4 dX7_on_91 rfl ?_
              refine g_aload X 1 dX7_on_92 rfl ?_
              refine g_aload_n X 2 dX7_on_94 rfl ?_
              refine g_getF X (f := (r2 + 12)) dX7_on_95 lf_X7_144 q3 rfl (fn_4_1 q3) ?_
              refine g_lload X 0 dX7_on_98 rfl ?_
              refine g_cVI X (K := K_X7_turnTo) [.int (iI v1), .ref r5, .ref (r2 + 12), .long (lI (x10 + v2))] [] dX7_on_100 lv_X7_177 rm_X7_on_X7_turnTo ⟨by decide, by decide⟩ adA_id rfl rfl rfl (Nat.le_of_ble_eq_true rfl) rfl h (fun x17 s16 q18 h => ?_)
              exact g_iret X hr hlk dX7_on_103 rfl ⟨_, rfl, q18, h⟩
            · have h := h.2 c15
              refine g_bipush X dX7_on_85 (by decide +kernel) ?_
              refine g_goto X (tgt := 103) dX7_on_87 (by decide) ?_
              exact g_iret X hr hlk dX7_on_103 rfl ⟨_, rfl, (by omega), h⟩
        · skip
          refine g_if_ne X (tgt := 53) dX7_on_47 (by decide) (by omega) (fun hc => absurd hc (by decide)) (fun _ => ?_)
          refine g_bipush X dX7_on_50 (by decide +kernel) ?_
          exact g_iret X hr hlk dX7_on_52 rfl ⟨_, rfl, (by omega), h⟩
    · skip
      refine g_if_ne X (tgt := 24) dX7_on_18 (by decide) (by omega) (fun hc => absurd hc (by decide)) (fun _ => ?_)
      refine g_bipush X dX7_on_21 (by decide +kernel) ?_
      exact g_iret X hr hlk dX7_on_23 rfl ⟨_, rfl, (by omega), h⟩
theorem eX7_on {v1 : Int} {v2 : Int} {σ : ASt} {Q : Int → ASt → Prop} (h32v2 : i32 v2) (h : EvR 4 K_X7_reelAt [.ref 0, .int (iI v1)] σ (fun s1 => Q (-2) s1) (fun r2 s1 => EvZ K_X7_isWithin [.int (iI v2), .int (iI (-100000)), .int (iI 100000)] s1 (fun s4 => ((gP s4 r2 0 = none → Q (-11) s4) ∧ (∀ r5 : Nat, gP s4 r2 0 = some r5 → shp r5 = (0, 0, 0) ∧ EvZ K_X0_allows [.ref r5, .ref (r2 + 12)] s4 (fun s8 => EvL K_X0_valueOf [.ref r5, .ref (r2 + 12)] s8 (fun x10 s9 => i64 ((x10 + v2)) ∧ (((x10 + v2) < 0 → Q (-4) s9) ∧ (0 ≤ (x10 + v2) → i64 ((gL s9 r5 5)) ∧ (((x10 + v2) ≤ (gL s9 r5 5) → EvI K_X7_turnTo [.ref 0, .int (iI v1), .ref r5, .ref (r2 + 12), .long (lI (x10 + v2))] s9 (fun x17 s16 => Q x17 s16)) ∧ ((gL s9 r5 5) < (x10 + v2) → Q (-4) s9)))))) (fun s8 => Q (-3) s8)))) (fun s4 => Q (-2) s4))) : EvI K_X7_on [.ref 0, .int (iI v1), .int (iI v2)] σ Q := Ev.of rfl (Nat.le_of_ble_eq_true rfl) rfl (bX7_on_0 h32v2 h)
theorem bX7_printInto_0 {a0 : Nat} {a1 : Nat} {σ : ASt} {Q : Int → ASt → Prop} (ha0 : shp a0 = (1, 0, 128)) (ha1 : shp a1 = (1, 0, 43)) (h : EvI K_X7_highestNotZero [.ref a1] σ (fun x2 s1 => Wx K_X7_printInto (QI Q) 11 [(0, .ref a0), (1, .ref a1), (2, .int (iI 0)), (3, .int (iI (if (x2 : Int) < 0 then 0 else x2)))] [] s1)) : Wx K_X7_printInto (QI Q) 0 [(0, .ref a0), (1, .ref a1)] [] σ := by
  intro p l e s m args below meth c D cA ad X0 hr hlk
  have X : Cx p s m args c (adA ad) D cA ad RX7 cX7_printInto 5 := X0
  refine g_iconst X dX7_printInto_0 ?_
  refine g_istore_n X (lv' := [(2, .int (iI 0)), (0, .ref a0), (1, .ref a1)]) dX7_printInto_1 (by decide) rfl ?_
  refine g_aload_n X 2 dX7_printInto_2 rfl ?_
  refine g_cSI X (K := K_X7_highestNotZero) [.ref a1] [] dX7_printInto_3 ls_X7_155 rm_X7_printInto_X7_highestNotZero ⟨by decide, by decide⟩ adA_id rfl (Nat.le_of_ble_eq_true rfl) rfl h (fun x2 s1 q3 h => ?_)
  refine g_iconst X dX7_printInto_6 ?_
  refine g_mmax X dX7_printInto_7 lm_X7_318 (by decide) (Nat.le_of_ble_eq_true rfl) ⟨by decide, by decide⟩ q3 (by omega) ?_
  refine g_istore_n X (lv' := [(3, .int (iI (if (x2 : Int) < 0 then 0 else x2))), (2, .int (iI 0)), (0, .ref a0), (1, .ref a1)]) dX7_printInto_10 (by decide) rfl ?_
  exact g_sub (lv' := [(0, .ref a0), (1, .ref a1), (2, .int (iI 0)), (3, .int (iI (if (x2 : Int) < 0 then 0 else x2)))]) [2, 3, 1, 0] rfl (h p l e s m args below meth c D cA ad X0 hr hlk)
theorem eX7_printInto {a0 : Nat} {a1 : Nat} {σ : ASt} {Q : Int → ASt → Prop} (ha0 : shp a0 = (1, 0, 128)) (ha1 : shp a1 = (1, 0, 43)) (h : EvI K_X7_highestNotZero [.ref a1] σ (fun x2 s1 => Wx K_X7_printInto (QI Q) 11 [(0, .ref a0), (1, .ref a1), (2, .int (iI 0)), (3, .int (iI (if (x2 : Int) < 0 then 0 else x2)))] [] s1)) : EvI K_X7_printInto [.ref a0, .ref a1] σ Q := Ev.of rfl (Nat.le_of_ble_eq_true rfl) rfl (bX7_printInto_0 ha0 ha1 h)
theorem bX7_printInto_11 {a0 : Nat} {a1 : Nat} {v2 : Int} {v3 : Int} {σ : ASt} {Q : Int → ASt → Prop} (ha0 : shp a0 = (1, 0, 128)) (ha1 : shp a1 = (1, 0, 43)) (h32v2 : i32 v2) (h32v3 : i32 v3) (h : ((v3 < 0 → Q v2 σ) ∧ (0 ≤ v3 → ((43 ≤ v3 → Q v2 σ) ∧ (v3 < 43 → ((0 : Int) ≤ v3 ∧ v3 < 43) ∧ i32 ((gI σ a1 v3)) ∧ (((gI σ a1 v3) ≤ 9 → ((128 ≤ v2 → ((v3 ≤ 0 → Wx K_X7_printInto (QI Q) 11 [(0, .ref a0), (1, .ref a1), (2, .int (iI v2)), (3, .int (iI (v3 + (-1))))] [] σ) ∧ (0 < v3 → ((128 ≤ v2 → Wx K_X7_printInto (QI Q) 11 [(0, .ref a0), (1, .ref a1), (2, .int (iI v2)), (3, .int (iI (v3 + (-1))))] [] σ) ∧ (v2 < 128 → ((0 : Int) ≤ v2 ∧ v2 < 128) ∧ Wx K_X7_printInto (QI Q) 11 [(0, .ref a0), (1, .ref a1), (2, .int (iI (v2 + 1))), (3, .int (iI (v3 + (-1))))] [] (sI σ a0 v2 46)))))) ∧ (v2 < 128 → ((0 : Int) ≤ v2 ∧ v2 < 128) ∧ ((v3 ≤ 0 → Wx K_X7_printInto (QI Q) 11 [(0, .ref a0), (1, .ref a1), (2, .int (iI (v2 + 1))), (3, .int (iI (v3 + (-1))))] [] (sI σ a0 v2 (48 + (Int.tmod (gI σ a1 v3) 10)))) ∧ (0 < v3 → i32 ((v2 + 1)) ∧ ((128 ≤ (v2 + 1) → Wx K_X7_printInto (QI Q) 11 [(0, .ref a0), (1, .ref a1), (2, .int (iI (v2 + 1))), (3, .int (iI (v3 + (-1))))] [] (sI σ a0 v2 (48 + (Int.tmod (gI σ a1 v3) 10)))) ∧ ((v2 + 1) < 128 → ((0 : Int) ≤ (v2 + 1) ∧ (v2 + 1) < 128) ∧ Wx K_X7_printInto (QI Q) 11 [(0, .ref a0), (1, .ref a1), (2, .int (iI ((v2 + 1) + 1))), (3, .int (iI (v3 + (-1))))] [] (sI (sI σ a0 v2 (48 + (Int.tmod (gI σ a1 v3) 10))) a0 (v2 + 1) 46)))))))) ∧ (9 < (gI σ a1 v3) → ((128 ≤ v2 → ((128 ≤ v2 → ((v3 ≤ 0 → Wx K_X7_printInto (QI Q) 11 [(0, .ref a0), (1, .ref a1), (2, .int (iI v2)), (3, .int (iI (v3 + (-1))))] [] σ) ∧ (0 < v3 → ((128 ≤ v2 → Wx K_X7_printInto (QI Q) 11 [(0, .ref a0), (1, .ref a1), (2, .int (iI v2)), (3, .int (iI (v3 + (-1))))] [] σ) ∧ (v2 < 128 → ((0 : Int) ≤ v2 ∧ v2 < 128) ∧ Wx K_X7_printInto (QI Q) 11 [(0, .ref a0), (1, .ref a1), (2, .int (iI (v2 + 1))), (3, .int (iI (v3 + (-1))))] [] (sI σ a0 v2 46)))))) ∧ (v2 < 128 → ((0 : Int) ≤ v2 ∧ v2 < 128) ∧ ((v3 ≤ 0 → Wx K_X7_printInto (QI Q) 11 [(0, .ref a0), (1, .ref a1), (2, .int (iI (v2 + 1))), (3, .int (iI (v3 + (-1))))] [] (sI σ a0 v2 (48 + (Int.tmod (gI σ a1 v3) 10)))) ∧ (0 < v3 → i32 ((v2 + 1)) ∧ ((128 ≤ (v2 + 1) → Wx K_X7_printInto (QI Q) 11 [(0, .ref a0), (1, .ref a1), (2, .int (iI (v2 + 1))), (3, .int (iI (v3 + (-1))))] [] (sI σ a0 v2 (48 + (Int.tmod (gI σ a1 v3) 10)))) ∧ ((v2 + 1) < 128 → ((0 : Int) ≤ (v2 + 1) ∧ (v2 + 1) < 128) ∧ Wx K_X7_printInto (QI Q) 11 [(0, .ref a0), (1, .ref a1), (2, .int (iI ((v2 + 1) + 1))), (3, .int (iI (v3 + (-1))))] [] (sI (sI σ a0 v2 (48 + (Int.tmod (gI σ a1 v3) 10))) a0 (v2 + 1) 46)))))))) ∧ (v2 < 128 → ((0 : Int) ≤ v2 ∧ v2 < 128) ∧ i32 ((v2 + 1)) ∧ ((128 ≤ (v2 + 1) → ((v3 ≤ 0 → Wx K_X7_printInto (QI Q) 11 [(0, .ref a0), (1, .ref a1), (2, .int (iI (v2 + 1))), (3, .int (iI (v3 + (-1))))] [] (sI σ a0 v2 (48 + (Int.tdiv (gI σ a1 v3) 10)))) ∧ (0 < v3 → ((128 ≤ (v2 + 1) → Wx K_X7_printInto (QI Q) 11 [(0, .ref a0), (1, .ref a1), (2, .int (iI (v2 + 1))), (3, .int (iI (v3 + (-1))))] [] (sI σ a0 v2 (48 + (Int.tdiv (gI σ a1 v3) 10)))) ∧ ((v2 + 1) < 128 → ((0 : Int) ≤ (v2 + 1) ∧ (v2 + 1) < 128) ∧ Wx K_X7_printInto (QI Q) 11 [(0, .ref a0), (1, .ref a1), (2, .int (iI ((v2 + 1) + 1))), (3, .int (iI (v3 + (-1))))] [] (sI (sI σ a0 v2 (48 + (Int.tdiv (gI σ a1 v3) 10))) a0 (v2 + 1) 46)))))) ∧ ((v2 + 1) < 128 → ((0 : Int) ≤ (v2 + 1) ∧ (v2 + 1) < 128) ∧ ((v3 ≤ 0 → Wx K_X7_printInto (QI Q) 11 [(0, .ref a0), (1, .ref a1), (2, .int (iI ((v2 + 1) + 1))), (3, .int (iI (v3 + (-1))))] [] (sI (sI σ a0 v2 (48 + (Int.tdiv (gI σ a1 v3) 10))) a0 (v2 + 1) (48 + (Int.tmod (gI σ a1 v3) 10)))) ∧ (0 < v3 → i32 (((v2 + 1) + 1)) ∧ ((128 ≤ ((v2 + 1) + 1) → Wx K_X7_printInto (QI Q) 11 [(0, .ref a0), (1, .ref a1), (2, .int (iI ((v2 + 1) + 1))), (3, .int (iI (v3 + (-1))))] [] (sI (sI σ a0 v2 (48 + (Int.tdiv (gI σ a1 v3) 10))) a0 (v2 + 1) (48 + (Int.tmod (gI σ a1 v3) 10)))) ∧ (((v2 + 1) + 1) < 128 → ((0 : Int) ≤ ((v2 + 1) + 1) ∧ ((v2 + 1) + 1) < 128) ∧ Wx K_X7_printInto (QI Q) 11 [(0, .ref a0), (1, .ref a1), (2, .int (iI (((v2 + 1) + 1) + 1))), (3, .int (iI (v3 + (-1))))] [] (sI (sI (sI σ a0 v2 (48 + (Int.tdiv (gI σ a1 v3) 10))) a0 (v2 + 1) (48 + (Int.tmod (gI σ a1 v3) 10))) a0 ((v2 + 1) + 1) 46)))))))))))))))) : Wx K_X7_printInto (QI Q) 11 [(0, .ref a0), (1, .ref a1), (2, .int (iI v2)), (3, .int (iI v3))] [] σ := by
  intro p l e s m args below meth c D cA ad X0 hr hlk
  have X : Cx p s m args c (adA ad) D cA ad RX7 cX7_printInto 5 := X0
  refine g_iload_n X 3 dX7_printInto_11 rfl ?_
  refine g_if_lt X (tgt := 97) dX7_printInto_12 (by decide) h32v3 (fun c1 => ?_) (fun c1 => ?_)
  · have h := h.1 c1
    refine g_iload_n X 2 dX7_printInto_97 rfl ?_
    exact g_iret X hr hlk dX7_printInto_98 rfl ⟨_, rfl, h32v2, h⟩
  · have h := h.2 c1
    refine g_iload_n X 3 dX7_printInto_15 rfl ?_
    refine g_aload_n X 1 dX7_printInto_16 rfl ?_
    refine g_alen1 X (z := 43) dX7_printInto_17 ha1 rfl ?_
    refine g_icmp_ge X (tgt := 97) dX7_printInto_18 (by decide) h32v3 (by omega) (fun c2 => ?_) (fun c2 => ?_)
    · have h := h.1 c2
      refine g_iload_n X 2 dX7_printInto_97 rfl ?_
      exact g_iret X hr hlk dX7_printInto_98 rfl ⟨_, rfl, h32v2, h⟩
    · have h := h.2 c2
      refine g_aload_n X 1 dX7_printInto_21 rfl ?_
      refine g_iload_n X 3 dX7_printInto_22 rfl ?_
      obtain ⟨q3, h⟩ := h
      refine g_iald X dX7_printInto_23 ha1 q3.1 q3.2 ?_
      refine g_istore X (lv' := [(4, .int (iI (gI σ a1 v3))), (0, .ref a0), (1, .ref a1), (2, .int (iI v2)), (3, .int (iI v3))]) dX7_printInto_24 (by decide) rfl ?_
      refine g_iload X 0 dX7_printInto_26 rfl ?_
      refine g_bipush X dX7_printInto_28 (by decide +kernel) ?_
      obtain ⟨q4, h⟩ := h
      refine g_icmp_le X (tgt := 53) dX7_printInto_30 (by decide) q4 (by omega) (fun c5 => ?_) (fun c5 => ?_)
      · have h := h.1 c5
        refine g_iload_n X 3 dX7_printInto_53 rfl ?_
        refine g_aload_n X 1 dX7_printInto_54 rfl ?_
        refine g_alen1 X (z := 128) dX7_printInto_55 ha0 rfl ?_
        refine g_icmp_ge X (tgt := 73) dX7_printInto_56 (by decide) h32v2 (by omega) (fun c6 => ?_) (fun c6 => ?_)
        · have h := h.1 c6
          refine g_iload_n X 4 dX7_printInto_73 rfl ?_
          refine g_if_le X (tgt := 91) dX7_printInto_74 (by decide) h32v3 (fun c7 => ?_) (fun c7 => ?_)
          · have h := h.1 c7
            refine g_iinc X (x := v3) (lv' := [(3, .int (iI (v3 + (-1)))), (4, .int (iI (gI σ a1 v3))), (0, .ref a0), (1, .ref a1), (2, .int (iI v2))]) 4 dX7_printInto_91 rfl (by decide) rfl ?_
            refine g_goto X (tgt := 11) dX7_printInto_94 (by decide) ?_
            exact g_sub (lv' := [(0, .ref a0), (1, .ref a1), (2, .int (iI v2)), (3, .int (iI (v3 + (-1))))]) [2, 3, 4, 0] rfl (h p l e s m args below meth c D cA ad X0 hr hlk)
          · have h := h.2 c7
            refine g_iload_n X 3 dX7_printInto_77 rfl ?_
            refine g_aload_n X 1 dX7_printInto_78 rfl ?_
            refine g_alen1 X (z := 128) dX7_printInto_79 ha0 rfl ?_
            refine g_icmp_ge X (tgt := 91) dX7_printInto_80 (by decide) h32v2 (by omega) (fun c8 => ?_) (fun c8 => ?_)
            · have h := h.1 c8
              refine g_iinc X (x := v3) (lv' := [(3, .int (iI (v3 + (-1)))), (4, .int (iI (gI σ a1 v3))), (0, .ref a0), (1, .ref a1), (2, .int (iI v2))]) 4 dX7_printInto_91 rfl (by decide) rfl ?_
              refine g_goto X (tgt := 11) dX7_printInto_94 (by decide) ?_
              exact g_sub (lv' := [(0, .ref a0), (1, .ref a1), (2, .int (iI v2)), (3, .int (iI (v3 + (-1))))]) [2, 3, 4, 0] rfl (h p l e s m args below meth c D cA ad X0 hr hlk)
            · have h := h.2 c8
              refine g_aload_n X 1 dX7_printInto_83 rfl ?_
              refine g_iload_n X 3 dX7_printInto_84 rfl ?_
              refine g_iinc X (x := v2) (lv' := [(2, .int (iI (v2 + 1))), (4, .int (iI (gI σ a1 v3))), (0, .ref a0), (1, .ref a1), (3, .int (iI v3))]) 3 dX7_printInto_85 rfl (by decide) rfl ?_
              refine g_bipush X dX7_printInto_88 (by decide +kernel) ?_
              obtain ⟨q9, h⟩ := h
              refine g_iast X dX7_printInto_90 ha0 q9.1 q9.2 ?_
              refine g_iinc X (x := v3) (lv' := [(3, .int (iI (v3 + (-1)))), (2, .int (iI (v2 + 1))), (4, .int (iI (gI σ a1 v3))), (0, .ref a0), (1, .ref a1)]) 4 dX7_printInto_91 rfl (by decide) rfl ?_
              refine g_goto X (tgt := 11) dX7_printInto_94 (by decide) ?_
              exact g_sub (lv' := [(0, .ref a0), (1, .ref a1), (2, .int (iI (v2 + 1))), (3, .int (iI (v3 + (-1))))]) [3, 4, 1, 0] rfl (h p l e s m args below meth c D cA ad X0 hr hlk)
        · have h := h.2 c6
          refine g_aload_n X 1 dX7_printInto_59 rfl ?_
          refine g_iload_n X 3 dX7_printInto_60 rfl ?_
          refine g_iinc X (x := v2) (lv' := [(2, .int (iI (v2 + 1))), (4, .int (iI (gI σ a1 v3))), (0, .ref a0), (1, .ref a1), (3, .int (iI v3))]) 3 dX7_printInto_61 rfl (by decide) rfl ?_
          refine g_bipush X dX7_printInto_64 (by decide +kernel) ?_
          refine g_iload X 1 dX7_printInto_66 rfl ?_
          refine g_bipush X dX7_printInto_68 (by decide +kernel) ?_
          refine g_irem X dX7_printInto_70 q4 (by omega) (by decide) ?_
          refine g_iadd X dX7_printInto_71 ?_
          obtain ⟨q10, h⟩ := h
          refine g_iast X dX7_printInto_72 ha0 q10.1 q10.2 ?_
          refine g_iload_n X 4 dX7_printInto_73 rfl ?_
          refine g_if_le X (tgt := 91) dX7_printInto_74 (by decide) h32v3 (fun c11 => ?_) (fun c11 => ?_)
          · have h := h.1 c11
            refine g_iinc X (x := v3) (lv' := [(3, .int (iI (v3 + (-1)))), (2, .int (iI (v2 + 1))), (4, .int (iI (gI σ a1 v3))), (0, .ref a0), (1, .ref a1)]) 4 dX7_printInto_91 rfl (by decide) rfl ?_
            refine g_goto X (tgt := 11) dX7_printInto_94 (by decide) ?_
            exact g_sub (lv' := [(0, .ref a0), (1, .ref a1), (2, .int (iI (v2 + 1))), (3, .int (iI (v3 + (-1))))]) [3, 4, 1, 0] rfl (h p l e s m args below meth c D cA ad X0 hr hlk)
          · have h := h.2 c11
            refine g_iload_n X 0 dX7_printInto_77 rfl ?_
            refine g_aload_n X 2 dX7_printInto_78 rfl ?_
            refine g_alen1 X (z := 128) dX7_printInto_79 ha0 rfl ?_
            obtain ⟨q12, h⟩ := h
            refine g_icmp_ge X (tgt := 91) dX7_printInto_80 (by decide) q12 (by omega) (fun c13 => ?_) (fun c13 => ?_)
            · have h := h.1 c13
              refine g_iinc X (x := v3) (lv' := [(3, .int (iI (v3 + (-1)))), (2, .int (iI (v2 + 1))), (4, .int (iI (gI σ a1 v3))), (0, .ref a0), (1, .ref a1)]) 4 dX7_printInto_91 rfl (by decide) rfl ?_
              refine g_goto X (tgt := 11) dX7_printInto_94 (by decide) ?_
              exact g_sub (lv' := [(0, .ref a0), (1, .ref a1), (2, .int (iI (v2 + 1))), (3, .int (iI (v3 + (-1))))]) [3, 4, 1, 0] rfl (h p l e s m args below meth c D cA ad X0 hr hlk)
            · have h := h.2 c13
              refine g_aload_n X 2 dX7_printInto_83 rfl ?_
              refine g_iload_n X 0 dX7_printInto_84 rfl ?_
              refine g_iinc X (x := (v2 + 1)) (lv' := [(2, .int (iI ((v2 + 1) + 1))), (4, .int (iI (gI σ a1 v3))), (0, .ref a0), (1, .ref a1), (3, .int (iI v3))]) 0 dX7_printInto_85 rfl (by decide) rfl ?_
              refine g_bipush X dX7_printInto_88 (by decide +kernel) ?_
              obtain ⟨q14, h⟩ := h
              refine g_iast X dX7_printInto_90 ha0 q14.1 q14.2 ?_
              refine g_iinc X (x := v3) (lv' := [(3, .int (iI (v3 + (-1)))), (2, .int (iI ((v2 + 1) + 1))), (4, .int (iI (gI σ a1 v3))), (0, .ref a0), (1, .ref a1)]) 4 dX7_printInto_91 rfl (by decide) rfl ?_
              refine g_goto X (tgt := 11) dX7_printInto_94 (by decide) ?_
              exact g_sub (lv' := [(0, .ref a0), (1, .ref a1), (2, .int (iI ((v2 + 1) + 1))), (3, .int (iI (v3 + (-1))))]) [3, 4, 1, 0] rfl (h p l e s m args below meth c D cA ad X0 hr hlk)
      · have h := h.2 c5
        refine g_iload_n X 3 dX7_printInto_33 rfl ?_
        refine g_aload_n X 1 dX7_printInto_34 rfl ?_
        refine g_alen1 X (z := 128) dX7_printInto_35 ha0 rfl ?_
        refine g_icmp_ge X (tgt := 53) dX7_printInto_36 (by decide) h32v2 (by omega) (fun c15 => ?_) (fun c15 => ?_)
        · have h := h.1 c15
          refine g_iload_n X 3 dX7_printInto_53 rfl ?_
          refine g_aload_n X 1 dX7_printInto_54 rfl ?_
          refine g_alen1 X (z := 128) dX7_printInto_55 ha0 rfl ?_
          refine g_icmp_ge X (tgt := 73) dX7_printInto_56 (by decide) h32v2 (by omega) (fun c16 => ?_) (fun c16 => ?_)
          · have h := h.1 c16
            refine g_iload_n X 4 dX7_printInto_73 rfl ?_
            refine g_if_le X (tgt := 91) dX7_printInto_74 (by decide) h32v3 (fun c17 => ?_) (fun c17 => ?_)
            · have h := h.1 c17
              refine g_iinc X (x := v3) (lv' := [(3, .int (iI (v3 + (-1)))), (4, .int (iI (gI σ a1 v3))), (0, .ref a0), (1, .ref a1), (2, .int (iI v2))]) 4 dX7_printInto_91 rfl (by decide) rfl ?_
              refine g_goto X (tgt := 11) dX7_printInto_94 (by decide) ?_
              exact g_sub (lv' := [(0, .ref a0), (1, .ref a1), (2, .int (iI v2)), (3, .int (iI (v3 + (-1))))]) [2, 3, 4, 0] rfl (h p l e s m args below meth c D cA ad X0 hr hlk)
            · have h := h.2 c17
              refine g_iload_n X 3 dX7_printInto_77 rfl ?_
              refine g_aload_n X 1 dX7_printInto_78 rfl ?_
              refine g_alen1 X (z := 128) dX7_printInto_79 ha0 rfl ?_
              refine g_icmp_ge X (tgt := 91) dX7_printInto_80 (by decide) h32v2 (by omega) (fun c18 => ?_) (fun c18 => ?_)
              · have h := h.1 c18
                refine g_iinc X (x := v3) (lv' := [(3, .int (iI (v3 + (-1)))), (4, .int (iI (gI σ a1 v3))), (0, .ref a0), (1, .ref a1), (2, .int (iI v2))]) 4 dX7_printInto_91 rfl (by decide) rfl ?_
                refine g_goto X (tgt := 11) dX7_printInto_94 (by decide) ?_
                exact g_sub (lv' := [(0, .ref a0), (1, .ref a1), (2, .int (iI v2)), (3, .int (iI (v3 + (-1))))]) [2, 3, 4, 0] rfl (h p l e s m args below meth c D cA ad X0 hr hlk)
              · have h := h.2 c18
                refine g_aload_n X 1 dX7_printInto_83 rfl ?_
                refine g_iload_n X 3 dX7_printInto_84 rfl ?_
                refine g_iinc X (x := v2) (lv' := [(2, .int (iI (v2 + 1))), (4, .int (iI (gI σ a1 v3))), (0, .ref a0), (1, .ref a1), (3, .int (iI v3))]) 3 dX7_printInto_85 rfl (by decide) rfl ?_
                refine g_bipush X dX7_printInto_88 (by decide +kernel) ?_
                obtain ⟨q19, h⟩ := h
                refine g_iast X dX7_printInto_90 ha0 q19.1 q19.2 ?_
                refine g_iinc X (x := v3) (lv' := [(3, .int (iI (v3 + (-1)))), (2, .int (iI (v2 + 1))), (4, .int (iI (gI σ a1 v3))), (0, .ref a0), (1, .ref a1)]) 4 dX7_printInto_91 rfl (by decide) rfl ?_
                refine g_goto X (tgt := 11) dX7_printInto_94 (by decide) ?_
                exact g_sub (lv' := [(0, .ref a0), (1, .ref a1), (2, .int (iI (v2 + 1))), (3, .int (iI (v3 + (-1))))]) [3, 4, 1, 0] rfl (h p l e s m args below meth c D cA ad X0 hr hlk)
          · have h := h.2 c16
            refine g_aload_n X 1 dX7_printInto_59 rfl ?_
            refine g_iload_n X 3 dX7_printInto_60 rfl ?_
            refine g_iinc X (x := v2) (lv' := [(2, .int (iI (v2 + 1))), (4, .int (iI (gI σ a1 v3))), (0, .ref a0), (1, .ref a1), (3, .int (iI v3))]) 3 dX7_printInto_61 rfl (by decide) rfl ?_
            refine g_bipush X dX7_printInto_64 (by decide +kernel) ?_
            refine g_iload X 1 dX7_printInto_66 rfl ?_
            refine g_bipush X dX7_printInto_68 (by decide +kernel) ?_
            refine g_irem X dX7_printInto_70 q4 (by omega) (by decide) ?_
            refine g_iadd X dX7_printInto_71 ?_
            obtain ⟨q20, h⟩ := h
            refine g_iast X dX7_printInto_72 ha0 q20.1 q20.2 ?_
            refine g_iload_n X 4 dX7_printInto_73 rfl ?_
            refine g_if_le X (tgt := 91) dX7_printInto_74 (by decide) h32v3 (fun c21 => ?_) (fun c21 => ?_)
            · have h := h.1 c21
              refine g_iinc X (x := v3) (lv' := [(3, .int (iI (v3 + (-1)))), (2, .int (iI (v2 + 1))), (4, .int (iI (gI σ a1 v3))), (0, .ref a0), (1, .ref a1)]) 4 dX7_printInto_91 rfl (by decide) rfl ?_
              refine g_goto X (tgt := 11) dX7_printInto_94 (by decide) ?_
              exact g_sub (lv' := [(0, .ref a0), (1, .ref a1), (2, .int (iI (v2 + 1))), (3, .int (iI (v3 + (-1))))]) [3, 4, 1, 0] rfl (h p l e s m args below meth c D cA ad X0 hr hlk)
            · have h := h.2 c21
              refine g_iload_n X 0 dX7_printInto_77 rfl ?_
              refine g_aload_n X 2 dX7_printInto_78 rfl ?_
              refine g_alen1 X (z := 128) dX7_printInto_79 ha0 rfl ?_
              obtain ⟨q22, h⟩ := h
              refine g_icmp_ge X (tgt := 91) dX7_printInto_80 (by decide) q22 (by omega) (fun c23 => ?_) (fun c23 => ?_)
              · have h := h.1 c23
                refine g_iinc X (x := v3) (lv' := [(3, .int (iI (v3 + (-1)))), (2, .int (iI (v2 + 1))), (4, .int (iI (gI σ a1 v3))), (0, .ref a0), (1, .ref a1)]) 4 dX7_printInto_91 rfl (by decide) rfl ?_
                refine g_goto X (tgt := 11) dX7_printInto_94 (by decide) ?_
                exact g_sub (lv' := [(0, .ref a0), (1, .ref a1), (2, .int (iI (v2 + 1))), (3, .int (iI (v3 + (-1))))]) [3, 4, 1, 0] rfl (h p l e s m args below meth c D cA ad X0 hr hlk)
              · have h := h.2 c23
                refine g_aload_n X 2 dX7_printInto_83 rfl ?_
                refine g_iload_n X 0 dX7_printInto_84 rfl ?_
                refine g_iinc X (x := (v2 + 1)) (lv' := [(2, .int (iI ((v2 + 1) + 1))), (4, .int (iI (gI σ a1 v3))), (0, .ref a0), (1, .ref a1), (3, .int (iI v3))]) 0 dX7_printInto_85 rfl (by decide) rfl ?_
                refine g_bipush X dX7_printInto_88 (by decide +kernel) ?_
                obtain ⟨q24, h⟩ := h
                refine g_iast X dX7_printInto_90 ha0 q24.1 q24.2 ?_
                refine g_iinc X (x := v3) (lv' := [(3, .int (iI (v3 + (-1)))), (2, .int (iI ((v2 + 1) + 1))), (4, .int (iI (gI σ a1 v3))), (0, .ref a0), (1, .ref a1)]) 4 dX7_printInto_91 rfl (by decide) rfl ?_
                refine g_goto X (tgt := 11) dX7_printInto_94 (by decide) ?_
                exact g_sub (lv' := [(0, .ref a0), (1, .ref a1), (2, .int (iI ((v2 + 1) + 1))), (3, .int (iI (v3 + (-1))))]) [3, 4, 1, 0] rfl (h p l e s m args below meth c D cA ad X0 hr hlk)
        · have h := h.2 c15
          refine g_aload_n X 1 dX7_printInto_39 rfl ?_
          refine g_iload_n X 3 dX7_printInto_40 rfl ?_
          refine g_iinc X (x := v2) (lv' := [(2, .int (iI (v2 + 1))), (4, .int (iI (gI σ a1 v3))), (0, .ref a0), (1, .ref a1), (3, .int (iI v3))]) 3 dX7_printInto_41 rfl (by decide) rfl ?_
          refine g_bipush X dX7_printInto_44 (by decide +kernel) ?_
          refine g_iload X 1 dX7_printInto_46 rfl ?_
          refine g_bipush X dX7_printInto_48 (by decide +kernel) ?_
          refine g_idiv X dX7_printInto_50 q4 (by omega) (by decide) ?_
          refine g_iadd X dX7_printInto_51 ?_
          obtain ⟨q25, h⟩ := h
          refine g_iast X dX7_printInto_52 ha0 q25.1 q25.2 ?_
          refine g_iload_n X 0 dX7_printInto_53 rfl ?_
          refine g_aload_n X 2 dX7_printInto_54 rfl ?_
          refine g_alen1 X (z := 128) dX7_printInto_55 ha0 rfl ?_
          obtain ⟨q26, h⟩ := h
          refine g_icmp_ge X (tgt := 73) dX7_printInto_56 (by decide) q26 (by omega) (fun c27 => ?_) (fun c27 => ?_)
          · have h := h.1 c27
            refine g_iload_n X 4 dX7_printInto_73 rfl ?_
            refine g_if_le X (tgt := 91) dX7_printInto_74 (by decide) h32v3 (fun c28 => ?_) (fun c28 => ?_)
            · have h := h.1 c28
              refine g_iinc X (x := v3) (lv' := [(3, .int (iI (v3 + (-1)))), (2, .int (iI (v2 + 1))), (4, .int (iI (gI σ a1 v3))), (0, .ref a0), (1, .ref a1)]) 4 dX7_printInto_91 rfl (by decide) rfl ?_
              refine g_goto X (tgt := 11) dX7_printInto_94 (by decide) ?_
              exact g_sub (lv' := [(0, .ref a0), (1, .ref a1), (2, .int (iI (v2 + 1))), (3, .int (iI (v3 + (-1))))]) [3, 4, 1, 0] rfl (h p l e s m args below meth c D cA ad X0 hr hlk)
            · have h := h.2 c28
              refine g_iload_n X 0 dX7_printInto_77 rfl ?_
              refine g_aload_n X 2 dX7_printInto_78 rfl ?_
              refine g_alen1 X (z := 128) dX7_printInto_79 ha0 rfl ?_
              refine g_icmp_ge X (tgt := 91) dX7_printInto_80 (by decide) q26 (by omega) (fun c29 => ?_) (fun c29 => ?_)
              · have h := h.1 c29
                refine g_iinc X (x := v3) (lv' := [(3, .int (iI (v3 + (-1)))), (2, .int (iI (v2 + 1))), (4, .int (iI (gI σ a1 v3))), (0, .ref a0), (1, .ref a1)]) 4 dX7_printInto_91 rfl (by decide) rfl ?_
                refine g_goto X (tgt := 11) dX7_printInto_94 (by decide) ?_
                exact g_sub (lv' := [(0, .ref a0), (1, .ref a1), (2, .int (iI (v2 + 1))), (3, .int (iI (v3 + (-1))))]) [3, 4, 1, 0] rfl (h p l e s m args below meth c D cA ad X0 hr hlk)
              · have h := h.2 c29
                refine g_aload_n X 2 dX7_printInto_83 rfl ?_
                refine g_iload_n X 0 dX7_printInto_84 rfl ?_
                refine g_iinc X (x := (v2 + 1)) (lv' := [(2, .int (iI ((v2 + 1) + 1))), (4, .int (iI (gI σ a1 v3))), (0, .ref a0), (1, .ref a1), (3, .int (iI v3))]) 0 dX7_printInto_85 rfl (by decide) rfl ?_
                refine g_bipush X dX7_printInto_88 (by decide +kernel) ?_
                obtain ⟨q30, h⟩ := h
                refine g_iast X dX7_printInto_90 ha0 q30.1 q30.2 ?_
                refine g_iinc X (x := v3) (lv' := [(3, .int (iI (v3 + (-1)))), (2, .int (iI ((v2 + 1) + 1))), (4, .int (iI (gI σ a1 v3))), (0, .ref a0), (1, .ref a1)]) 4 dX7_printInto_91 rfl (by decide) rfl ?_
                refine g_goto X (tgt := 11) dX7_printInto_94 (by decide) ?_
                exact g_sub (lv' := [(0, .ref a0), (1, .ref a1), (2, .int (iI ((v2 + 1) + 1))), (3, .int (iI (v3 + (-1))))]) [3, 4, 1, 0] rfl (h p l e s m args below meth c D cA ad X0 hr hlk)
          · have h := h.2 c27
            refine g_aload_n X 2 dX7_printInto_59 rfl ?_
            refine g_iload_n X 0 dX7_printInto_60 rfl ?_
            refine g_iinc X (x := (v2 + 1)) (lv' := [(2, .int (iI ((v2 + 1) + 1))), (4, .int (iI (gI σ a1 v3))), (0, .ref a0), (1, .ref a1), (3, .int (iI v3))]) 0 dX7_printInto_61 rfl (by decide) rfl ?_
            refine g_bipush X dX7_printInto_64 (by decide +kernel) ?_
            refine g_iload X 1 dX7_printInto_66 rfl ?_
            refine g_bipush X dX7_printInto_68 (by decide +kernel) ?_
            refine g_irem X dX7_printInto_70 q4 (by omega) (by decide) ?_
            refine g_iadd X dX7_printInto_71 ?_
            obtain ⟨q31, h⟩ := h
            refine g_iast X dX7_printInto_72 ha0 q31.1 q31.2 ?_
            refine g_iload_n X 4 dX7_printInto_73 rfl ?_
            refine g_if_le X (tgt := 91) dX7_printInto_74 (by decide) h32v3 (fun c32 => ?_) (fun c32 => ?_)
            · have h := h.1 c32
              refine g_iinc X (x := v3) (lv' := [(3, .int (iI (v3 + (-1)))), (2, .int (iI ((v2 + 1) + 1))), (4, .int (iI (gI σ a1 v3))), (0, .ref a0), (1, .ref a1)]) 4 dX7_printInto_91 rfl (by decide) rfl ?_
              refine g_goto X (tgt := 11) dX7_printInto_94 (by decide) ?_
              exact g_sub (lv' := [(0, .ref a0), (1, .ref a1), (2, .int (iI ((v2 + 1) + 1))), (3, .int (iI (v3 + (-1))))]) [3, 4, 1, 0] rfl (h p l e s m args below meth c D cA ad X0 hr hlk)
            · have h := h.2 c32
              refine g_iload_n X 0 dX7_printInto_77 rfl ?_
              refine g_aload_n X 2 dX7_printInto_78 rfl ?_
              refine g_alen1 X (z := 128) dX7_printInto_79 ha0 rfl ?_
              obtain ⟨q33, h⟩ := h
              refine g_icmp_ge X (tgt := 91) dX7_printInto_80 (by decide) q33 (by omega) (fun c34 => ?_) (fun c34 => ?_)
              · have h := h.1 c34
                refine g_iinc X (x := v3) (lv' := [(3, .int (iI (v3 + (-1)))), (2, .int (iI ((v2 + 1) + 1))), (4, .int (iI (gI σ a1 v3))), (0, .ref a0), (1, .ref a1)]) 4 dX7_printInto_91 rfl (by decide) rfl ?_
                refine g_goto X (tgt := 11) dX7_printInto_94 (by decide) ?_
                exact g_sub (lv' := [(0, .ref a0), (1, .ref a1), (2, .int (iI ((v2 + 1) + 1))), (3, .int (iI (v3 + (-1))))]) [3, 4, 1, 0] rfl (h p l e s m args below meth c D cA ad X0 hr hlk)
              · have h := h.2 c34
                refine g_aload_n X 2 dX7_printInto_83 rfl ?_
                refine g_iload_n X 0 dX7_printInto_84 rfl ?_
                refine g_iinc X (x := ((v2 + 1) + 1)) (lv' := [(2, .int (iI (((v2 + 1) + 1) + 1))), (4, .int (iI (gI σ a1 v3))), (0, .ref a0), (1, .ref a1), (3, .int (iI v3))]) 0 dX7_printInto_85 rfl (by decide) rfl ?_
                refine g_bipush X dX7_printInto_88 (by decide +kernel) ?_
                obtain ⟨q35, h⟩ := h
                refine g_iast X dX7_printInto_90 ha0 q35.1 q35.2 ?_
                refine g_iinc X (x := v3) (lv' := [(3, .int (iI (v3 + (-1)))), (2, .int (iI (((v2 + 1) + 1) + 1))), (4, .int (iI (gI σ a1 v3))), (0, .ref a0), (1, .ref a1)]) 4 dX7_printInto_91 rfl (by decide) rfl ?_
                refine g_goto X (tgt := 11) dX7_printInto_94 (by decide) ?_
                exact g_sub (lv' := [(0, .ref a0), (1, .ref a1), (2, .int (iI (((v2 + 1) + 1) + 1))), (3, .int (iI (v3 + (-1))))]) [3, 4, 1, 0] rfl (h p l e s m args below meth c D cA ad X0 hr hlk)
theorem bX7_print_0 {v1 : Int} {v2 : Int} {σ : ASt} {Q : Int → ASt → Prop} (h32v2 : i32 v2) (h : EvR 4 K_X7_reelAt [.ref 0, .int (iI v1)] σ (fun s1 => Q (-2) s1) (fun r2 s1 => (((-1) ≤ v2 → ((gP s1 r2 0 = none → Q (-11) s1) ∧ (∀ r5 : Nat, gP s1 r2 0 = some r5 → shp r5 = (0, 0, 0) ∧ EvI K_X7_printInto [.ref 8, .ref (r2 + 12)] s1 (fun x9 s8 => ((v2 ≠ (-1) → ((x9 ≤ v2 → Q (-12) s8) ∧ (v2 < x9 → ((0 : Int) ≤ v2 ∧ v2 < 128) ∧ i32 ((gI s8 8 v2)) ∧ Q (gI s8 8 v2) s8))) ∧ (v2 = (-1) → Q x9 s8)))))) ∧ (v2 < (-1) → Q (-2) s1)))) : Wx K_X7_print (QI Q) 0 [(0, .ref 0), (1, .int (iI v1)), (2, .int (iI v2))] [] σ := by
  intro p l e s m args below meth c D cA ad X0 hr hlk
  have X : Cx p s m args c (adA ad) D cA ad RX7 cX7_print 5 := X0
  refine g_aload_n X 0 dX7_print_0 rfl ?_
  refine g_iload_n X 1 dX7_print_1 rfl ?_
  refine g_cVR X (K := K_X7_reelAt) [.int (iI v1)] [] dX7_print_2 lv_X7_87 rm_X7_print_X7_reelAt ⟨by decide, by decide⟩ adA_id rfl rfl rfl (Nat.le_of_ble_eq_true rfl) rfl h (fun s1 h => ?_) (fun r2 s1 q3 h => ?_)
  · skip
    refine g_astore_nN X (lv' := [(3, .null), (0, .ref 0), (1, .int (iI v1)), (2, .int (iI v2))]) dX7_print_5 (by decide) rfl ?_
    refine g_aload_nN X 0 dX7_print_6 rfl ?_
    refine g_ifnullN X (tgt := 15) dX7_print_7 (by decide) ?_
    refine g_bipush X dX7_print_15 (by decide +kernel) ?_
    exact g_iret X hr hlk dX7_print_17 rfl ⟨_, rfl, (by omega), h⟩
  · skip
    refine g_astore_n X (lv' := [(3, .ref r2), (0, .ref 0), (1, .int (iI v1)), (2, .int (iI v2))]) dX7_print_5 (by decide) rfl ?_
    refine g_aload_n X 0 dX7_print_6 rfl ?_
    refine g_ifnull X dX7_print_7 ?_
    refine g_iload_n X 3 dX7_print_10 rfl ?_
    refine g_iconst X dX7_print_11 ?_
    refine g_icmp_ge X (tgt := 18) dX7_print_12 (by decide) h32v2 (by omega) (fun c4 => ?_) (fun c4 => ?_)
    · have h := h.1 c4
      refine g_aload_n X 0 dX7_print_18 rfl ?_
      refine g_getP X dX7_print_19 lf_X7_91 q3 rfl (fun c6 => ?_) (fun r5 c6 => ?_)
      · have h := h.1 c6
        refine g_ifnonnullN X dX7_print_22 ?_
        refine g_bipush X dX7_print_25 (by decide +kernel) ?_
        exact g_iret X hr hlk dX7_print_27 rfl ⟨_, rfl, (by omega), h⟩
      · obtain ⟨q7, h⟩ := h.2 r5 c6
        refine g_ifnonnull X (tgt := 28) dX7_print_22 (by decide) ?_
        refine g_aload_n X 1 dX7_print_28 rfl ?_
        refine g_getF X (f := 8) dX7_print_29 lf_X7_67 rfl rfl rfl ?_
        refine g_aload_n X 0 dX7_print_32 rfl ?_
        refine g_getF X (f := (r2 + 12)) dX7_print_33 lf_X7_144 q3 rfl (fn_4_1 q3) ?_
        refine g_cSI X (K := K_X7_printInto) [.ref 8, .ref (r2 + 12)] [] dX7_print_36 ls_X7_232 rm_X7_print_X7_printInto ⟨by decide, by decide⟩ adA_id rfl (Nat.le_of_ble_eq_true rfl) rfl h (fun x9 s8 q10 h => ?_)
        refine g_istore X (lv' := [(4, .int (iI x9)), (3, .ref r2), (0, .ref 0), (1, .int (iI v1)), (2, .int (iI v2))]) dX7_print_39 (by decide) rfl ?_
        refine g_iload_n X 4 dX7_print_41 rfl ?_
        refine g_iconst X dX7_print_42 ?_
        refine g_icmp_ne X (tgt := 49) dX7_print_43 (by decide) h32v2 (by omega) (fun c11 => ?_) (fun c11 => ?_)
        · have h := h.1 c11
          refine g_iload_n X 4 dX7_print_49 rfl ?_
          refine g_iload X 0 dX7_print_50 rfl ?_
          refine g_icmp_ge X (tgt := 64) dX7_print_52 (by decide) h32v2 q10 (fun c12 => ?_) (fun c12 => ?_)
          · have h := h.1 c12
            refine g_bipush X dX7_print_64 (by decide +kernel) ?_
            exact g_iret X hr hlk dX7_print_66 rfl ⟨_, rfl, (by omega), h⟩
          · have h := h.2 c12
            refine g_aload_n X 2 dX7_print_55 rfl ?_
            refine g_getF X (f := 8) dX7_print_56 lf_X7_67 rfl rfl rfl ?_
            refine g_iload_n X 4 dX7_print_59 rfl ?_
            obtain ⟨q13, h⟩ := h
            refine g_iald X dX7_print_60 rfl q13.1 q13.2 ?_
            refine g_goto X (tgt := 66) dX7_print_61 (by decide) ?_
            obtain ⟨q14, h⟩ := h
            exact g_iret X hr hlk dX7_print_66 rfl ⟨_, rfl, q14, h⟩
        · have h := h.2 c11
          refine g_iload X 0 dX7_print_46 rfl ?_
          exact g_iret X hr hlk dX7_print_48 rfl ⟨_, rfl, q10, h⟩
    · have h := h.2 c4
      refine g_bipush X dX7_print_15 (by decide +kernel) ?_
      exact g_iret X hr hlk dX7_print_17 rfl ⟨_, rfl, (by omega), h⟩
theorem eX7_print {v1 : Int} {v2 : Int} {σ : ASt} {Q : Int → ASt → Prop} (h32v2 : i32 v2) (h : EvR 4 K_X7_reelAt [.ref 0, .int (iI v1)] σ (fun s1 => Q (-2) s1) (fun r2 s1 => (((-1) ≤ v2 → ((gP s1 r2 0 = none → Q (-11) s1) ∧ (∀ r5 : Nat, gP s1 r2 0 = some r5 → shp r5 = (0, 0, 0) ∧ EvI K_X7_printInto [.ref 8, .ref (r2 + 12)] s1 (fun x9 s8 => ((v2 ≠ (-1) → ((x9 ≤ v2 → Q (-12) s8) ∧ (v2 < x9 → ((0 : Int) ≤ v2 ∧ v2 < 128) ∧ i32 ((gI s8 8 v2)) ∧ Q (gI s8 8 v2) s8))) ∧ (v2 = (-1) → Q x9 s8)))))) ∧ (v2 < (-1) → Q (-2) s1)))) : EvI K_X7_print [.ref 0, .int (iI v1), .int (iI v2)] σ Q := Ev.of rfl (Nat.le_of_ble_eq_true rfl) rfl (bX7_print_0 h32v2 h)
theorem bX7_put_0 {v1 : Int} {v2 : Int} {v3 : Int} {σ : ASt} {Q : Int → ASt → Prop}  (h : EvR 2 K_X7_rowAt [.ref 0, .int (iI v1)] σ (fun s1 => Q (-2) s1) (fun r2 s1 => EvZ K_X2_isMissing [.ref r2] s1 (fun s4 => Q (-11) s4) (fun s4 => EvZ K_X2_hasPlace [.ref r2, .int (iI v2)] s4 (fun s5 => ((0 : Int) ≤ v2 ∧ v2 < 60) ∧ Q 1 (sL s5 (r2 + 3) v2 v3)) (fun s5 => Q (-12) s5)))) : Wx K_X7_put (QI Q) 0 [(0, .ref 0), (1, .int (iI v1)), (2, .int (iI v2)), (3, .long (lI v3))] [] σ := by
  intro p l e s m args below meth c D cA ad X0 hr hlk
  have X : Cx p s m args c (adA ad) D cA ad RX7 cX7_put 6 := X0
  refine g_aload_n X 0 dX7_put_0 rfl ?_
  refine g_iload_n X 1 dX7_put_1 rfl ?_
  refine g_cVR X (K := K_X7_rowAt) [.int (iI v1)] [] dX7_put_2 lv_X7_256 rm_X7_put_X7_rowAt ⟨by decide, by decide⟩ adA_id rfl rfl rfl (Nat.le_of_ble_eq_true rfl) rfl h (fun s1 h => ?_) (fun r2 s1 q3 h => ?_)
  · skip
    refine g_astoreN X (lv' := [(5, .null), (0, .ref 0), (1, .int (iI v1)), (2, .int (iI v2)), (3, .long (lI v3))]) dX7_put_5 (by decide) rfl ?_
    refine g_aloadN X 0 dX7_put_7 rfl ?_
    refine g_ifnonnullN X dX7_put_9 ?_
    refine g_bipush X dX7_put_12 (by decide +kernel) ?_
    exact g_iret X hr hlk dX7_put_14 rfl ⟨_, rfl, (by omega), h⟩
  · skip
    refine g_astore X (lv' := [(5, .ref r2), (0, .ref 0), (1, .int (iI v1)), (2, .int (iI v2)), (3, .long (lI v3))]) dX7_put_5 (by decide) rfl ?_
    refine g_aload X 0 dX7_put_7 rfl ?_
    refine g_ifnonnull X (tgt := 15) dX7_put_9 (by decide) ?_
    refine g_aload X 0 dX7_put_15 rfl ?_
    refine g_cVZ X (K := K_X2_isMissing) [] [] dX7_put_17 lv_X7_263 rm_X7_put_X2_isMissing ⟨by decide, by decide⟩ adA_id q3 rfl rfl (Nat.le_of_ble_eq_true rfl) rfl h (fun s4 h => ?_) (fun s4 h => ?_)
    · skip
      refine g_if_eq X (tgt := 26) dX7_put_20 (by decide) (by omega) (fun hc => absurd hc (by decide)) (fun _ => ?_)
      refine g_bipush X dX7_put_23 (by decide +kernel) ?_
      exact g_iret X hr hlk dX7_put_25 rfl ⟨_, rfl, (by omega), h⟩
    · skip
      refine g_if_eq X (tgt := 26) dX7_put_20 (by decide) (by omega) (fun _ => ?_) (fun hc => absurd hc (by decide))
      refine g_aload X 0 dX7_put_26 rfl ?_
      refine g_iload_n X 3 dX7_put_28 rfl ?_
      refine g_cVZ X (K := K_X2_hasPlace) [.int (iI v2)] [] dX7_put_29 lv_X7_267 rm_X7_put_X2_hasPlace ⟨by decide, by decide⟩ adA_id q3 rfl rfl (Nat.le_of_ble_eq_true rfl) rfl h (fun s5 h => ?_) (fun s5 h => ?_)
      · skip
        refine g_if_ne X (tgt := 38) dX7_put_32 (by decide) (by omega) (fun _ => ?_) (fun hc => absurd hc (by decide))
        refine g_aload X 0 dX7_put_38 rfl ?_
        refine g_getF X (f := (r2 + 3)) dX7_put_40 lf_X7_268 q3 rfl (fn_2_0 q3) ?_
        refine g_iload_n X 3 dX7_put_43 rfl ?_
        refine g_lload_n X 4 dX7_put_44 rfl ?_
        obtain ⟨q6, h⟩ := h
        refine g_last X dX7_put_45 (sf_2_0 q3) q6.1 q6.2 ?_
        refine g_iconst X dX7_put_46 ?_
        exact g_iret X hr hlk dX7_put_47 rfl ⟨_, rfl, (by omega), h⟩
      · skip
        refine g_if_ne X (tgt := 38) dX7_put_32 (by decide) (by omega) (fun hc => absurd hc (by decide)) (fun _ => ?_)
        refine g_bipush X dX7_put_35 (by decide +kernel) ?_
        exact g_iret X hr hlk dX7_put_37 rfl ⟨_, rfl, (by omega), h⟩
theorem eX7_put {v1 : Int} {v2 : Int} {v3 : Int} {σ : ASt} {Q : Int → ASt → Prop}  (h : EvR 2 K_X7_rowAt [.ref 0, .int (iI v1)] σ (fun s1 => Q (-2) s1) (fun r2 s1 => EvZ K_X2_isMissing [.ref r2] s1 (fun s4 => Q (-11) s4) (fun s4 => EvZ K_X2_hasPlace [.ref r2, .int (iI v2)] s4 (fun s5 => ((0 : Int) ≤ v2 ∧ v2 < 60) ∧ Q 1 (sL s5 (r2 + 3) v2 v3)) (fun s5 => Q (-12) s5)))) : EvI K_X7_put [.ref 0, .int (iI v1), .int (iI v2), .long (lI v3)] σ Q := Ev.of rfl (Nat.le_of_ble_eq_true rfl) rfl (bX7_put_0  h)
