/-! by program: the block rules of class 5 -/
theorem bX5_add_0 {a0 : Nat} {v1 : Int} {v3 : Int} {v5 : Int} {σ : ASt} {Q : ASt → Prop} (ha0 : shp a0 = (0, 5, 0)) (h32v5 : i32 v5) (h64v1 : i64 v1) (h : i32 ((gI σ a0 3)) ∧ (((gI σ a0 3) ≤ 0 → ((1300 ≤ (gI σ a0 3) → Q σ) ∧ ((gI σ a0 3) < 1300 → ((0 : Int) ≤ (gI σ a0 3) ∧ (gI σ a0 3) < 1300) ∧ ((0 : Int) ≤ (gI (sL σ (a0 + 2) (gI σ a0 3) v1) a0 3) ∧ (gI (sL σ (a0 + 2) (gI σ a0 3) v1) a0 3) < 1300) ∧ ((0 : Int) ≤ (gI (sL (sL σ (a0 + 2) (gI σ a0 3) v1) (a0 + 4) (gI (sL σ (a0 + 2) (gI σ a0 3) v1) a0 3) v3) a0 3) ∧ (gI (sL (sL σ (a0 + 2) (gI σ a0 3) v1) (a0 + 4) (gI (sL σ (a0 + 2) (gI σ a0 3) v1) a0 3) v3) a0 3) < 1300) ∧ Q (sI (sI (sL (sL σ (a0 + 2) (gI σ a0 3) v1) (a0 + 4) (gI (sL σ (a0 + 2) (gI σ a0 3) v1) a0 3) v3) (a0 + 6) (gI (sL (sL σ (a0 + 2) (gI σ a0 3) v1) (a0 + 4) (gI (sL σ (a0 + 2) (gI σ a0 3) v1) a0 3) v3) a0 3) v5) a0 3 ((gI (sI (sL (sL σ (a0 + 2) (gI σ a0 3) v1) (a0 + 4) (gI (sL σ (a0 + 2) (gI σ a0 3) v1) a0 3) v3) (a0 + 6) (gI (sL (sL σ (a0 + 2) (gI σ a0 3) v1) (a0 + 4) (gI (sL σ (a0 + 2) (gI σ a0 3) v1) a0 3) v3) a0 3) v5) a0 3) + 1))))) ∧ (0 < (gI σ a0 3) → ((1300 < (gI σ a0 3) → ((1300 ≤ (gI σ a0 3) → Q σ) ∧ ((gI σ a0 3) < 1300 → ((0 : Int) ≤ (gI σ a0 3) ∧ (gI σ a0 3) < 1300) ∧ ((0 : Int) ≤ (gI (sL σ (a0 + 2) (gI σ a0 3) v1) a0 3) ∧ (gI (sL σ (a0 + 2) (gI σ a0 3) v1) a0 3) < 1300) ∧ ((0 : Int) ≤ (gI (sL (sL σ (a0 + 2) (gI σ a0 3) v1) (a0 + 4) (gI (sL σ (a0 + 2) (gI σ a0 3) v1) a0 3) v3) a0 3) ∧ (gI (sL (sL σ (a0 + 2) (gI σ a0 3) v1) (a0 + 4) (gI (sL σ (a0 + 2) (gI σ a0 3) v1) a0 3) v3) a0 3) < 1300) ∧ Q (sI (sI (sL (sL σ (a0 + 2) (gI σ a0 3) v1) (a0 + 4) (gI (sL σ (a0 + 2) (gI σ a0 3) v1) a0 3) v3) (a0 + 6) (gI (sL (sL σ (a0 + 2) (gI σ a0 3) v1) (a0 + 4) (gI (sL σ (a0 + 2) (gI σ a0 3) v1) a0 3) v3) a0 3) v5) a0 3 ((gI (sI (sL (sL σ (a0 + 2) (gI σ a0 3) v1) (a0 + 4) (gI (sL σ (a0 + 2) (gI σ a0 3) v1) a0 3) v3) (a0 + 6) (gI (sL (sL σ (a0 + 2) (gI σ a0 3) v1) (a0 + 4) (gI (sL σ (a0 + 2) (gI σ a0 3) v1) a0 3) v3) a0 3) v5) a0 3) + 1))))) ∧ ((gI σ a0 3) ≤ 1300 → ((0 : Int) ≤ ((gI σ a0 3) - 1) ∧ ((gI σ a0 3) - 1) < 1300) ∧ i64 ((gL σ (a0 + 2) ((gI σ a0 3) - 1))) ∧ (((gL σ (a0 + 2) ((gI σ a0 3) - 1)) ≠ v1 → ((1300 ≤ (gI σ a0 3) → Q σ) ∧ ((gI σ a0 3) < 1300 → ((0 : Int) ≤ (gI σ a0 3) ∧ (gI σ a0 3) < 1300) ∧ ((0 : Int) ≤ (gI (sL σ (a0 + 2) (gI σ a0 3) v1) a0 3) ∧ (gI (sL σ (a0 + 2) (gI σ a0 3) v1) a0 3) < 1300) ∧ ((0 : Int) ≤ (gI (sL (sL σ (a0 + 2) (gI σ a0 3) v1) (a0 + 4) (gI (sL σ (a0 + 2) (gI σ a0 3) v1) a0 3) v3) a0 3) ∧ (gI (sL (sL σ (a0 + 2) (gI σ a0 3) v1) (a0 + 4) (gI (sL σ (a0 + 2) (gI σ a0 3) v1) a0 3) v3) a0 3) < 1300) ∧ Q (sI (sI (sL (sL σ (a0 + 2) (gI σ a0 3) v1) (a0 + 4) (gI (sL σ (a0 + 2) (gI σ a0 3) v1) a0 3) v3) (a0 + 6) (gI (sL (sL σ (a0 + 2) (gI σ a0 3) v1) (a0 + 4) (gI (sL σ (a0 + 2) (gI σ a0 3) v1) a0 3) v3) a0 3) v5) a0 3 ((gI (sI (sL (sL σ (a0 + 2) (gI σ a0 3) v1) (a0 + 4) (gI (sL σ (a0 + 2) (gI σ a0 3) v1) a0 3) v3) (a0 + 6) (gI (sL (sL σ (a0 + 2) (gI σ a0 3) v1) (a0 + 4) (gI (sL σ (a0 + 2) (gI σ a0 3) v1) a0 3) v3) a0 3) v5) a0 3) + 1))))) ∧ ((gL σ (a0 + 2) ((gI σ a0 3) - 1)) = v1 → ((0 : Int) ≤ ((gI (sL σ (a0 + 4) ((gI σ a0 3) - 1) ((gL σ (a0 + 4) ((gI σ a0 3) - 1)) + v3)) a0 3) - 1) ∧ ((gI (sL σ (a0 + 4) ((gI σ a0 3) - 1) ((gL σ (a0 + 4) ((gI σ a0 3) - 1)) + v3)) a0 3) - 1) < 1300) ∧ i32 ((gI (sL σ (a0 + 4) ((gI σ a0 3) - 1) ((gL σ (a0 + 4) ((gI σ a0 3) - 1)) + v3)) (a0 + 6) ((gI (sL σ (a0 + 4) ((gI σ a0 3) - 1) ((gL σ (a0 + 4) ((gI σ a0 3) - 1)) + v3)) a0 3) - 1))) ∧ Q (sI (sL σ (a0 + 4) ((gI σ a0 3) - 1) ((gL σ (a0 + 4) ((gI σ a0 3) - 1)) + v3)) (a0 + 6) ((gI (sL σ (a0 + 4) ((gI σ a0 3) - 1) ((gL σ (a0 + 4) ((gI σ a0 3) - 1)) + v3)) a0 3) - 1) (if (v5 : Int) < (gI (sL σ (a0 + 4) ((gI σ a0 3) - 1) ((gL σ (a0 + 4) ((gI σ a0 3) - 1)) + v3)) (a0 + 6) ((gI (sL σ (a0 + 4) ((gI σ a0 3) - 1) ((gL σ (a0 + 4) ((gI σ a0 3) - 1)) + v3)) a0 3) - 1)) then v5 else (gI (sL σ (a0 + 4) ((gI σ a0 3) - 1) ((gL σ (a0 + 4) ((gI σ a0 3) - 1)) + v3)) (a0 + 6) ((gI (sL σ (a0 + 4) ((gI σ a0 3) - 1) ((gL σ (a0 + 4) ((gI σ a0 3) - 1)) + v3)) a0 3) - 1))))))))))) : Wx K_X5_add (QV Q) 0 [(0, .ref a0), (1, .long (lI v1)), (3, .long (lI v3)), (5, .int (iI v5))] [] σ := by
  intro p l e s m args below meth c D cA ad X0 hr hlk
  have X : Cx p s m args c (adA ad) D cA ad RX5 cX5_add 6 := X0
  refine g_aload_n X 0 dX5_add_0 rfl ?_
  refine g_getI X (z := 3) dX5_add_1 lf_X5_20 ha0 rfl rfl ?_
  obtain ⟨q1, h⟩ := h
  refine g_if_le X (tgt := 78) dX5_add_4 (by decide) q1 (fun c2 => ?_) (fun c2 => ?_)
  · have h := h.1 c2
    refine g_aload_n X 0 dX5_add_78 rfl ?_
    refine g_getI X (z := 3) dX5_add_79 lf_X5_20 ha0 rfl rfl ?_
    refine g_sipush X dX5_add_82 (by decide +kernel) ?_
    refine g_icmp_ge X (tgt := 129) dX5_add_85 (by decide) q1 (by omega) (fun c3 => ?_) (fun c3 => ?_)
    · have h := h.1 c3
      exact g_vret X hr hlk dX5_add_129 ⟨rfl, h⟩
    · have h := h.2 c3
      refine g_aload_n X 0 dX5_add_88 rfl ?_
      refine g_getF X (f := (a0 + 2)) dX5_add_89 lf_X5_9 ha0 rfl (fn_5_0 ha0) ?_
      refine g_aload_n X 0 dX5_add_92 rfl ?_
      refine g_getI X (z := 3) dX5_add_93 lf_X5_20 ha0 rfl rfl ?_
      refine g_lload_n X 1 dX5_add_96 rfl ?_
      obtain ⟨q4, h⟩ := h
      refine g_last X dX5_add_97 (sf_5_0 ha0) q4.1 q4.2 ?_
      refine g_aload_n X 0 dX5_add_98 rfl ?_
      refine g_getF X (f := (a0 + 4)) dX5_add_99 lf_X5_13 ha0 rfl (fn_5_1 ha0) ?_
      refine g_aload_n X 0 dX5_add_102 rfl ?_
      refine g_getI X (z := 3) dX5_add_103 lf_X5_20 ha0 rfl rfl ?_
      refine g_lload_n X 2 dX5_add_106 rfl ?_
      obtain ⟨q5, h⟩ := h
      refine g_last X dX5_add_107 (sf_5_1 ha0) q5.1 q5.2 ?_
      refine g_aload_n X 0 dX5_add_108 rfl ?_
      refine g_getF X (f := (a0 + 6)) dX5_add_109 lf_X5_16 ha0 rfl (fn_5_2 ha0) ?_
      refine g_aload_n X 0 dX5_add_112 rfl ?_
      refine g_getI X (z := 3) dX5_add_113 lf_X5_20 ha0 rfl rfl ?_
      refine g_iload X 3 dX5_add_116 rfl ?_
      obtain ⟨q6, h⟩ := h
      refine g_iast X dX5_add_118 (sf_5_2 ha0) q6.1 q6.2 ?_
      refine g_aload_n X 0 dX5_add_119 rfl ?_
      refine g_dup X dX5_add_120 rfl ?_
      refine g_getI X (z := 3) dX5_add_121 lf_X5_20 ha0 rfl rfl ?_
      refine g_iconst X dX5_add_124 ?_
      refine g_iadd X dX5_add_125 ?_
      refine g_putI X (j := 3) (z := 3) dX5_add_126 lp_X5_20 ha0 rfl rfl ?_
      exact g_vret X hr hlk dX5_add_129 ⟨rfl, h⟩
  · have h := h.2 c2
    refine g_aload_n X 0 dX5_add_7 rfl ?_
    refine g_getI X (z := 3) dX5_add_8 lf_X5_20 ha0 rfl rfl ?_
    refine g_sipush X dX5_add_11 (by decide +kernel) ?_
    refine g_icmp_gt X (tgt := 78) dX5_add_14 (by decide) q1 (by omega) (fun c7 => ?_) (fun c7 => ?_)
    · have h := h.1 c7
      refine g_aload_n X 0 dX5_add_78 rfl ?_
      refine g_getI X (z := 3) dX5_add_79 lf_X5_20 ha0 rfl rfl ?_
      refine g_sipush X dX5_add_82 (by decide +kernel) ?_
      refine g_icmp_ge X (tgt := 129) dX5_add_85 (by decide) q1 (by omega) (fun c8 => ?_) (fun c8 => ?_)
      · have h := h.1 c8
        exact g_vret X hr hlk dX5_add_129 ⟨rfl, h⟩
      · have h := h.2 c8
        refine g_aload_n X 0 dX5_add_88 rfl ?_
        refine g_getF X (f := (a0 + 2)) dX5_add_89 lf_X5_9 ha0 rfl (fn_5_0 ha0) ?_
        refine g_aload_n X 0 dX5_add_92 rfl ?_
        refine g_getI X (z := 3) dX5_add_93 lf_X5_20 ha0 rfl rfl ?_
        refine g_lload_n X 1 dX5_add_96 rfl ?_
        obtain ⟨q9, h⟩ := h
        refine g_last X dX5_add_97 (sf_5_0 ha0) q9.1 q9.2 ?_
        refine g_aload_n X 0 dX5_add_98 rfl ?_
        refine g_getF X (f := (a0 + 4)) dX5_add_99 lf_X5_13 ha0 rfl (fn_5_1 ha0) ?_
        refine g_aload_n X 0 dX5_add_102 rfl ?_
        refine g_getI X (z := 3) dX5_add_103 lf_X5_20 ha0 rfl rfl ?_
        refine g_lload_n X 2 dX5_add_106 rfl ?_
        obtain ⟨q10, h⟩ := h
        refine g_last X dX5_add_107 (sf_5_1 ha0) q10.1 q10.2 ?_
        refine g_aload_n X 0 dX5_add_108 rfl ?_
        refine g_getF X (f := (a0 + 6)) dX5_add_109 lf_X5_16 ha0 rfl (fn_5_2 ha0) ?_
        refine g_aload_n X 0 dX5_add_112 rfl ?_
        refine g_getI X (z := 3) dX5_add_113 lf_X5_20 ha0 rfl rfl ?_
        refine g_iload X 3 dX5_add_116 rfl ?_
        obtain ⟨q11, h⟩ := h
        refine g_iast X dX5_add_118 (sf_5_2 ha0) q11.1 q11.2 ?_
        refine g_aload_n X 0 dX5_add_119 rfl ?_
        refine g_dup X dX5_add_120 rfl ?_
        refine g_getI X (z := 3) dX5_add_121 lf_X5_20 ha0 rfl rfl ?_
        refine g_iconst X dX5_add_124 ?_
        refine g_iadd X dX5_add_125 ?_
        refine g_putI X (j := 3) (z := 3) dX5_add_126 lp_X5_20 ha0 rfl rfl ?_
        exact g_vret X hr hlk dX5_add_129 ⟨rfl, h⟩
    · have h := h.2 c7
      refine g_aload_n X 0 dX5_add_17 rfl ?_
      refine g_getF X (f := (a0 + 2)) dX5_add_18 lf_X5_9 ha0 rfl (fn_5_0 ha0) ?_
      refine g_aload_n X 0 dX5_add_21 rfl ?_
      refine g_getI X (z := 3) dX5_add_22 lf_X5_20 ha0 rfl rfl ?_
      refine g_iconst X dX5_add_25 ?_
      refine g_isub X dX5_add_26 ?_
      obtain ⟨q12, h⟩ := h
      refine g_lald X dX5_add_27 (sf_5_0 ha0) q12.1 q12.2 ?_
      refine g_lload_n X 1 dX5_add_28 rfl ?_
      obtain ⟨q13, h⟩ := h
      refine g_lc_ne X (tgt := 78) dX5_add_29 dX5_add_30 (by decide) q13 h64v1 (fun c14 => ?_) (fun c14 => ?_)
      · have h := h.1 c14
        refine g_aload_n X 0 dX5_add_78 rfl ?_
        refine g_getI X (z := 3) dX5_add_79 lf_X5_20 ha0 rfl rfl ?_
        refine g_sipush X dX5_add_82 (by decide +kernel) ?_
        refine g_icmp_ge X (tgt := 129) dX5_add_85 (by decide) q1 (by omega) (fun c15 => ?_) (fun c15 => ?_)
        · have h := h.1 c15
          exact g_vret X hr hlk dX5_add_129 ⟨rfl, h⟩
        · have h := h.2 c15
          refine g_aload_n X 0 dX5_add_88 rfl ?_
          refine g_getF X (f := (a0 + 2)) dX5_add_89 lf_X5_9 ha0 rfl (fn_5_0 ha0) ?_
          refine g_aload_n X 0 dX5_add_92 rfl ?_
          refine g_getI X (z := 3) dX5_add_93 lf_X5_20 ha0 rfl rfl ?_
          refine g_lload_n X 1 dX5_add_96 rfl ?_
          obtain ⟨q16, h⟩ := h
          refine g_last X dX5_add_97 (sf_5_0 ha0) q16.1 q16.2 ?_
          refine g_aload_n X 0 dX5_add_98 rfl ?_
          refine g_getF X (f := (a0 + 4)) dX5_add_99 lf_X5_13 ha0 rfl (fn_5_1 ha0) ?_
          refine g_aload_n X 0 dX5_add_102 rfl ?_
          refine g_getI X (z := 3) dX5_add_103 lf_X5_20 ha0 rfl rfl ?_
          refine g_lload_n X 2 dX5_add_106 rfl ?_
          obtain ⟨q17, h⟩ := h
          refine g_last X dX5_add_107 (sf_5_1 ha0) q17.1 q17.2 ?_
          refine g_aload_n X 0 dX5_add_108 rfl ?_
          refine g_getF X (f := (a0 + 6)) dX5_add_109 lf_X5_16 ha0 rfl (fn_5_2 ha0) ?_
          refine g_aload_n X 0 dX5_add_112 rfl ?_
          refine g_getI X (z := 3) dX5_add_113 lf_X5_20 ha0 rfl rfl ?_
          refine g_iload X 3 dX5_add_116 rfl ?_
          obtain ⟨q18, h⟩ := h
          refine g_iast X dX5_add_118 (sf_5_2 ha0) q18.1 q18.2 ?_
          refine g_aload_n X 0 dX5_add_119 rfl ?_
          refine g_dup X dX5_add_120 rfl ?_
          refine g_getI X (z := 3) dX5_add_121 lf_X5_20 ha0 rfl rfl ?_
          refine g_iconst X dX5_add_124 ?_
          refine g_iadd X dX5_add_125 ?_
          refine g_putI X (j := 3) (z := 3) dX5_add_126 lp_X5_20 ha0 rfl rfl ?_
          exact g_vret X hr hlk dX5_add_129 ⟨rfl, h⟩
      · have h := h.2 c14
        refine g_aload_n X 0 dX5_add_33 rfl ?_
        refine g_getF X (f := (a0 + 4)) dX5_add_34 lf_X5_13 ha0 rfl (fn_5_1 ha0) ?_
        refine g_aload_n X 0 dX5_add_37 rfl ?_
        refine g_getI X (z := 3) dX5_add_38 lf_X5_20 ha0 rfl rfl ?_
        refine g_iconst X dX5_add_41 ?_
        refine g_isub X dX5_add_42 ?_
        refine g_dup2 X dX5_add_43 rfl rfl ?_
        refine g_lald X dX5_add_44 (sf_5_1 ha0) q12.1 q12.2 ?_
        refine g_lload_n X 2 dX5_add_45 rfl ?_
        refine g_ladd X dX5_add_46 ?_
        refine g_last X dX5_add_47 (sf_5_1 ha0) q12.1 q12.2 ?_
        refine g_aload_n X 0 dX5_add_48 rfl ?_
        refine g_getF X (f := (a0 + 6)) dX5_add_49 lf_X5_16 ha0 rfl (fn_5_2 ha0) ?_
        refine g_aload_n X 0 dX5_add_52 rfl ?_
        refine g_getI X (z := 3) dX5_add_53 lf_X5_20 ha0 rfl rfl ?_
        refine g_iconst X dX5_add_56 ?_
        refine g_isub X dX5_add_57 ?_
        refine g_aload_n X 0 dX5_add_58 rfl ?_
        refine g_getF X (f := (a0 + 6)) dX5_add_59 lf_X5_16 ha0 rfl (fn_5_2 ha0) ?_
        refine g_aload_n X 0 dX5_add_62 rfl ?_
        refine g_getI X (z := 3) dX5_add_63 lf_X5_20 ha0 rfl rfl ?_
        refine g_iconst X dX5_add_66 ?_
        refine g_isub X dX5_add_67 ?_
        obtain ⟨q19, h⟩ := h
        refine g_iald X dX5_add_68 (sf_5_2 ha0) q19.1 q19.2 ?_
        refine g_iload X 3 dX5_add_69 rfl ?_
        obtain ⟨q20, h⟩ := h
        refine g_mmin X dX5_add_71 lm_X5_24 (by decide) (Nat.le_of_ble_eq_true rfl) ⟨by decide, by decide⟩ q20 h32v5 ?_
        refine g_iast X dX5_add_74 (sf_5_2 ha0) q19.1 q19.2 ?_
        refine g_goto X (tgt := 129) dX5_add_75 (by decide) ?_
        exact g_vret X hr hlk dX5_add_129 ⟨rfl, h⟩
theorem eX5_add {a0 : Nat} {v1 : Int} {v3 : Int} {v5 : Int} {σ : ASt} {Q : ASt → Prop} (ha0 : shp a0 = (0, 5, 0)) (h32v5 : i32 v5) (h64v1 : i64 v1) (h : i32 ((gI σ a0 3)) ∧ (((gI σ a0 3) ≤ 0 → ((1300 ≤ (gI σ a0 3) → Q σ) ∧ ((gI σ a0 3) < 1300 → ((0 : Int) ≤ (gI σ a0 3) ∧ (gI σ a0 3) < 1300) ∧ ((0 : Int) ≤ (gI (sL σ (a0 + 2) (gI σ a0 3) v1) a0 3) ∧ (gI (sL σ (a0 + 2) (gI σ a0 3) v1) a0 3) < 1300) ∧ ((0 : Int) ≤ (gI (sL (sL σ (a0 + 2) (gI σ a0 3) v1) (a0 + 4) (gI (sL σ (a0 + 2) (gI σ a0 3) v1) a0 3) v3) a0 3) ∧ (gI (sL (sL σ (a0 + 2) (gI σ a0 3) v1) (a0 + 4) (gI (sL σ (a0 + 2) (gI σ a0 3) v1) a0 3) v3) a0 3) < 1300) ∧ Q (sI (sI (sL (sL σ (a0 + 2) (gI σ a0 3) v1) (a0 + 4) (gI (sL σ (a0 + 2) (gI σ a0 3) v1) a0 3) v3) (a0 + 6) (gI (sL (sL σ (a0 + 2) (gI σ a0 3) v1) (a0 + 4) (gI (sL σ (a0 + 2) (gI σ a0 3) v1) a0 3) v3) a0 3) v5) a0 3 ((gI (sI (sL (sL σ (a0 + 2) (gI σ a0 3) v1) (a0 + 4) (gI (sL σ (a0 + 2) (gI σ a0 3) v1) a0 3) v3) (a0 + 6) (gI (sL (sL σ (a0 + 2) (gI σ a0 3) v1) (a0 + 4) (gI (sL σ (a0 + 2) (gI σ a0 3) v1) a0 3) v3) a0 3) v5) a0 3) + 1))))) ∧ (0 < (gI σ a0 3) → ((1300 < (gI σ a0 3) → ((1300 ≤ (gI σ a0 3) → Q σ) ∧ ((gI σ a0 3) < 1300 → ((0 : Int) ≤ (gI σ a0 3) ∧ (gI σ a0 3) < 1300) ∧ ((0 : Int) ≤ (gI (sL σ (a0 + 2) (gI σ a0 3) v1) a0 3) ∧ (gI (sL σ (a0 + 2) (gI σ a0 3) v1) a0 3) < 1300) ∧ ((0 : Int) ≤ (gI (sL (sL σ (a0 + 2) (gI σ a0 3) v1) (a0 + 4) (gI (sL σ (a0 + 2) (gI σ a0 3) v1) a0 3) v3) a0 3) ∧ (gI (sL (sL σ (a0 + 2) (gI σ a0 3) v1) (a0 + 4) (gI (sL σ (a0 + 2) (gI σ a0 3) v1) a0 3) v3) a0 3) < 1300) ∧ Q (sI (sI (sL (sL σ (a0 + 2) (gI σ a0 3) v1) (a0 + 4) (gI (sL σ (a0 + 2) (gI σ a0 3) v1) a0 3) v3) (a0 + 6) (gI (sL (sL σ (a0 + 2) (gI σ a0 3) v1) (a0 + 4) (gI (sL σ (a0 + 2) (gI σ a0 3) v1) a0 3) v3) a0 3) v5) a0 3 ((gI (sI (sL (sL σ (a0 + 2) (gI σ a0 3) v1) (a0 + 4) (gI (sL σ (a0 + 2) (gI σ a0 3) v1) a0 3) v3) (a0 + 6) (gI (sL (sL σ (a0 + 2) (gI σ a0 3) v1) (a0 + 4) (gI (sL σ (a0 + 2) (gI σ a0 3) v1) a0 3) v3) a0 3) v5) a0 3) + 1))))) ∧ ((gI σ a0 3) ≤ 1300 → ((0 : Int) ≤ ((gI σ a0 3) - 1) ∧ ((gI σ a0 3) - 1) < 1300) ∧ i64 ((gL σ (a0 + 2) ((gI σ a0 3) - 1))) ∧ (((gL σ (a0 + 2) ((gI σ a0 3) - 1)) ≠ v1 → ((1300 ≤ (gI σ a0 3) → Q σ) ∧ ((gI σ a0 3) < 1300 → ((0 : Int) ≤ (gI σ a0 3) ∧ (gI σ a0 3) < 1300) ∧ ((0 : Int) ≤ (gI (sL σ (a0 + 2) (gI σ a0 3) v1) a0 3) ∧ (gI (sL σ (a0 + 2) (gI σ a0 3) v1) a0 3) < 1300) ∧ ((0 : Int) ≤ (gI (sL (sL σ (a0 + 2) (gI σ a0 3) v1) (a0 + 4) (gI (sL σ (a0 + 2) (gI σ a0 3) v1) a0 3) v3) a0 3) ∧ (gI (sL (sL σ (a0 + 2) (gI σ a0 3) v1) (a0 + 4) (gI (sL σ (a0 + 2) (gI σ a0 3) v1) a0 3) v3) a0 3) < 1300) ∧ Q (sI (sI (sL (sL σ (a0 + 2) (gI σ a0 3) v1) (a0 + 4) (gI (sL σ (a0 + 2) (gI σ a0 3) v1) a0 3) v3) (a0 + 6) (gI (sL (sL σ (a0 + 2) (gI σ a0 3) v1) (a0 + 4) (gI (sL σ (a0 + 2) (gI σ a0 3) v1) a0 3) v3) a0 3) v5) a0 3 ((gI (sI (sL (sL σ (a0 + 2) (gI σ a0 3) v1) (a0 + 4) (gI (sL σ (a0 + 2) (gI σ a0 3) v1) a0 3) v3) (a0 + 6) (gI (sL (sL σ (a0 + 2) (gI σ a0 3) v1) (a0 + 4) (gI (sL σ (a0 + 2) (gI σ a0 3) v1) a0 3) v3) a0 3) v5) a0 3) + 1))))) ∧ ((gL σ (a0 + 2) ((gI σ a0 3) - 1)) = v1 → ((0 : Int) ≤ ((gI (sL σ (a0 + 4) ((gI σ a0 3) - 1) ((gL σ (a0 + 4) ((gI σ a0 3) - 1)) + v3)) a0 3) - 1) ∧ ((gI (sL σ (a0 + 4) ((gI σ a0 3) - 1) ((gL σ (a0 + 4) ((gI σ a0 3) - 1)) + v3)) a0 3) - 1) < 1300) ∧ i32 ((gI (sL σ (a0 + 4) ((gI σ a0 3) - 1) ((gL σ (a0 + 4) ((gI σ a0 3) - 1)) + v3)) (a0 + 6) ((gI (sL σ (a0 + 4) ((gI σ a0 3) - 1) ((gL σ (a0 + 4) ((gI σ a0 3) - 1)) + v3)) a0 3) - 1))) ∧ Q (sI (sL σ (a0 + 4) ((gI σ a0 3) - 1) ((gL σ (a0 + 4) ((gI σ a0 3) - 1)) + v3)) (a0 + 6) ((gI (sL σ (a0 + 4) ((gI σ a0 3) - 1) ((gL σ (a0 + 4) ((gI σ a0 3) - 1)) + v3)) a0 3) - 1) (if (v5 : Int) < (gI (sL σ (a0 + 4) ((gI σ a0 3) - 1) ((gL σ (a0 + 4) ((gI σ a0 3) - 1)) + v3)) (a0 + 6) ((gI (sL σ (a0 + 4) ((gI σ a0 3) - 1) ((gL σ (a0 + 4) ((gI σ a0 3) - 1)) + v3)) a0 3) - 1)) then v5 else (gI (sL σ (a0 + 4) ((gI σ a0 3) - 1) ((gL σ (a0 + 4) ((gI σ a0 3) - 1)) + v3)) (a0 + 6) ((gI (sL σ (a0 + 4) ((gI σ a0 3) - 1) ((gL σ (a0 + 4) ((gI σ a0 3) - 1)) + v3)) a0 3) - 1))))))))))) : EvV K_X5_add [.ref a0, .long (lI v1), .long (lI v3), .int (iI v5)] σ Q := Ev.of rfl (Nat.le_of_ble_eq_true rfl) rfl (bX5_add_0 ha0 h32v5 h64v1 h)
