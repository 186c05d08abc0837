/-! by program: the block rules of class 8, part 1 -/
theorem bX8_isRow_0 {v0 : Int} {σ : ASt} {QT QF : ASt → Prop} (h32v0 : i32 v0) (h : EvZ K_X8_in [.long (lI v0), .long (lI 0), .long (lI 2)] σ (fun s1 => QT s1) (fun s1 => QF s1)) : Wx K_X8_isRow (QZ QT QF) 0 [(0, .int (iI v0))] [] σ := by
  intro p l e s m args below meth c D cA ad X0 hr hlk
  have X : Cx p s m args c (adA ad) D cA ad RX8 cX8_isRow 1 := X0
  refine g_iload_n X 0 dX8_isRow_0 rfl ?_
  refine g_i2l X dX8_isRow_1 h32v0 ?_
  refine g_lconst X (z := 0) dX8_isRow_2 (by decide +kernel) ?_
  refine g_ldc2 X (z := 2) dX8_isRow_3 lc_X8_102 (by decide +kernel) ?_
  refine g_cSZ X (K := K_X8_in) [.long (lI v0), .long (lI 0), .long (lI 2)] [] dX8_isRow_6 ls_X8_104 rm_X8_isRow_X8_in ⟨by decide, by decide⟩ adA_id rfl (Nat.le_of_ble_eq_true rfl) rfl h (fun s1 h => ?_) (fun s1 h => ?_)
  · skip
    exact g_iret X hr hlk dX8_isRow_9 rfl (Or.inl ⟨rfl, h⟩)
  · skip
    exact g_iret X hr hlk dX8_isRow_9 rfl (Or.inr ⟨rfl, h⟩)
theorem eX8_isRow {v0 : Int} {σ : ASt} {QT QF : ASt → Prop} (h32v0 : i32 v0) (h : EvZ K_X8_in [.long (lI v0), .long (lI 0), .long (lI 2)] σ (fun s1 => QT s1) (fun s1 => QF s1)) : EvZ K_X8_isRow [.int (iI v0)] σ QT QF := Ev.of rfl (Nat.le_of_ble_eq_true rfl) rfl (bX8_isRow_0 h32v0 h)
theorem bX8_copy_0 {v1 : Int} {v2 : Int} {v3 : Int} {v4 : Int} {v5 : Int} {σ : ASt} {Q : Int → ASt → Prop} (h32v2 : i32 v2) (h32v4 : i32 v4) (h32v5 : i32 v5) (h : EvZ K_X8_isRow [.int (iI v1)] σ (fun s1 => EvZ K_X8_isRow [.int (iI v3)] s1 (fun s2 => ((0 : Int) ≤ v1 ∧ v1 < 3) ∧ i32 ((gI s2 93 v1)) ∧ (((gI s2 93 v1) = 0 → Q (-11) s2) ∧ ((gI s2 93 v1) ≠ 0 → ((0 : Int) ≤ v3 ∧ v3 < 3) ∧ i32 ((gI s2 93 v3)) ∧ (((gI s2 93 v3) ≠ 0 → ((v5 < 0 → Q (-12) s2) ∧ (0 ≤ v5 → ((v2 < 0 → Q (-12) s2) ∧ (0 ≤ v2 → ((v4 < 0 → Q (-12) s2) ∧ (0 ≤ v4 → i32 ((gI s2 94 v1)) ∧ i64 ((v2 + v5)) ∧ (((gI s2 94 v1) < (v2 + v5) → Q (-12) s2) ∧ ((v2 + v5) ≤ (gI s2 94 v1) → i32 ((gI s2 94 v3)) ∧ i64 ((v4 + v5)) ∧ (((v4 + v5) ≤ (gI s2 94 v3) → Wx K_X8_copy (QI Q) 93 [(0, .ref 72), (1, .int (iI v1)), (2, .int (iI v2)), (3, .int (iI v3)), (4, .int (iI v4)), (5, .int (iI v5)), (6, .int (iI 0))] [] s2) ∧ ((gI s2 94 v3) < (v4 + v5) → Q (-12) s2))))))))))) ∧ ((gI s2 93 v3) = 0 → Q (-11) s2))))) (fun s2 => Q (-2) s2)) (fun s1 => Q (-2) s1)) : Wx K_X8_copy (QI Q) 0 [(0, .ref 72), (1, .int (iI v1)), (2, .int (iI v2)), (3, .int (iI v3)), (4, .int (iI v4)), (5, .int (iI v5))] [] σ := by
  intro p l e s m args below meth c D cA ad X0 hr hlk
  have X : Cx p s m args c (adA ad) D cA ad RX8 cX8_copy 7 := X0
  refine g_iload_n X 1 dX8_copy_0 rfl ?_
  refine g_cSZ X (K := K_X8_isRow) [.int (iI v1)] [] dX8_copy_1 ls_X8_251 rm_X8_copy_X8_isRow ⟨by decide, by decide⟩ adA_id rfl (Nat.le_of_ble_eq_true rfl) rfl h (fun s1 h => ?_) (fun s1 h => ?_)
  · skip
    refine g_if_eq X (tgt := 14) dX8_copy_4 (by decide) (by omega) (fun hc => absurd hc (by decide)) (fun _ => ?_)
    refine g_iload_n X 3 dX8_copy_7 rfl ?_
    refine g_cSZ X (K := K_X8_isRow) [.int (iI v3)] [] dX8_copy_8 ls_X8_251 rm_X8_copy_X8_isRow ⟨by decide, by decide⟩ adA_id rfl (Nat.le_of_ble_eq_true rfl) rfl h (fun s2 h => ?_) (fun s2 h => ?_)
    · skip
      refine g_if_ne X (tgt := 17) dX8_copy_11 (by decide) (by omega) (fun _ => ?_) (fun hc => absurd hc (by decide))
      refine g_aload_n X 0 dX8_copy_17 rfl ?_
      refine g_getF X (f := 93) dX8_copy_18 lf_X8_73 rfl rfl rfl ?_
      refine g_iload_n X 1 dX8_copy_21 rfl ?_
      obtain ⟨q3, h⟩ := h
      refine g_zald X dX8_copy_22 rfl q3.1 q3.2 ?_
      obtain ⟨q4, h⟩ := h
      refine g_if_eq X (tgt := 35) dX8_copy_23 (by decide) q4 (fun c5 => ?_) (fun c5 => ?_)
      · have h := h.1 c5
        refine g_bipush X dX8_copy_35 (by decide +kernel) ?_
        exact g_iret X hr hlk dX8_copy_37 rfl ⟨_, rfl, (by omega), h⟩
      · have h := h.2 c5
        refine g_aload_n X 0 dX8_copy_26 rfl ?_
        refine g_getF X (f := 93) dX8_copy_27 lf_X8_73 rfl rfl rfl ?_
        refine g_iload_n X 3 dX8_copy_30 rfl ?_
        obtain ⟨q6, h⟩ := h
        refine g_zald X dX8_copy_31 rfl q6.1 q6.2 ?_
        obtain ⟨q7, h⟩ := h
        refine g_if_ne X (tgt := 38) dX8_copy_32 (by decide) q7 (fun c8 => ?_) (fun c8 => ?_)
        · have h := h.1 c8
          refine g_iload X 5 dX8_copy_38 rfl ?_
          refine g_if_lt X (tgt := 87) dX8_copy_40 (by decide) h32v5 (fun c9 => ?_) (fun c9 => ?_)
          · have h := h.1 c9
            refine g_bipush X dX8_copy_87 (by decide +kernel) ?_
            exact g_iret X hr hlk dX8_copy_89 rfl ⟨_, rfl, (by omega), h⟩
          · have h := h.2 c9
            refine g_iload_n X 2 dX8_copy_43 rfl ?_
            refine g_if_lt X (tgt := 87) dX8_copy_44 (by decide) h32v2 (fun c10 => ?_) (fun c10 => ?_)
            · have h := h.1 c10
              refine g_bipush X dX8_copy_87 (by decide +kernel) ?_
              exact g_iret X hr hlk dX8_copy_89 rfl ⟨_, rfl, (by omega), h⟩
            · have h := h.2 c10
              refine g_iload X 4 dX8_copy_47 rfl ?_
              refine g_if_lt X (tgt := 87) dX8_copy_49 (by decide) h32v4 (fun c11 => ?_) (fun c11 => ?_)
              · have h := h.1 c11
                refine g_bipush X dX8_copy_87 (by decide +kernel) ?_
                exact g_iret X hr hlk dX8_copy_89 rfl ⟨_, rfl, (by omega), h⟩
              · have h := h.2 c11
                refine g_iload_n X 2 dX8_copy_52 rfl ?_
                refine g_i2l X dX8_copy_53 h32v2 ?_
                refine g_iload X 5 dX8_copy_54 rfl ?_
                refine g_i2l X dX8_copy_56 h32v5 ?_
                refine g_ladd X dX8_copy_57 ?_
                refine g_aload_n X 0 dX8_copy_58 rfl ?_
                refine g_getF X (f := 94) dX8_copy_59 lf_X8_77 rfl rfl rfl ?_
                refine g_iload_n X 1 dX8_copy_62 rfl ?_
                refine g_iald X dX8_copy_63 rfl q3.1 q3.2 ?_
                obtain ⟨q12, h⟩ := h
                refine g_i2l X dX8_copy_64 q12 ?_
                obtain ⟨q13, h⟩ := h
                refine g_lc_gt X (tgt := 87) dX8_copy_65 dX8_copy_66 (by decide) q13 (by have := q12; omega) (fun c14 => ?_) (fun c14 => ?_)
                · have h := h.1 c14
                  refine g_bipush X dX8_copy_87 (by decide +kernel) ?_
                  exact g_iret X hr hlk dX8_copy_89 rfl ⟨_, rfl, (by omega), h⟩
                · have h := h.2 c14
                  refine g_iload X 4 dX8_copy_69 rfl ?_
                  refine g_i2l X dX8_copy_71 h32v4 ?_
                  refine g_iload X 5 dX8_copy_72 rfl ?_
                  refine g_i2l X dX8_copy_74 h32v5 ?_
                  refine g_ladd X dX8_copy_75 ?_
                  refine g_aload_n X 0 dX8_copy_76 rfl ?_
                  refine g_getF X (f := 94) dX8_copy_77 lf_X8_77 rfl rfl rfl ?_
                  refine g_iload_n X 3 dX8_copy_80 rfl ?_
                  refine g_iald X dX8_copy_81 rfl q6.1 q6.2 ?_
                  obtain ⟨q15, h⟩ := h
                  refine g_i2l X dX8_copy_82 q15 ?_
                  obtain ⟨q16, h⟩ := h
                  refine g_lc_le X (tgt := 90) dX8_copy_83 dX8_copy_84 (by decide) q16 (by have := q15; omega) (fun c17 => ?_) (fun c17 => ?_)
                  · have h := h.1 c17
                    refine g_iconst X dX8_copy_90 ?_
                    refine g_istore X (lv' := [(6, .int (iI 0)), (0, .ref 72), (1, .int (iI v1)), (2, .int (iI v2)), (3, .int (iI v3)), (4, .int (iI v4)), (5, .int (iI v5))]) dX8_copy_91 (by decide) rfl ?_
                    exact g_sub (lv' := [(0, .ref 72), (1, .int (iI v1)), (2, .int (iI v2)), (3, .int (iI v3)), (4, .int (iI v4)), (5, .int (iI v5)), (6, .int (iI 0))]) [1, 2, 3, 4, 5, 6, 0] rfl (h p l e s m args below meth c D cA ad X0 hr hlk)
                  · have h := h.2 c17
                    refine g_bipush X dX8_copy_87 (by decide +kernel) ?_
                    exact g_iret X hr hlk dX8_copy_89 rfl ⟨_, rfl, (by omega), h⟩
        · have h := h.2 c8
          refine g_bipush X dX8_copy_35 (by decide +kernel) ?_
          exact g_iret X hr hlk dX8_copy_37 rfl ⟨_, rfl, (by omega), h⟩
    · skip
      refine g_if_ne X (tgt := 17) dX8_copy_11 (by decide) (by omega) (fun hc => absurd hc (by decide)) (fun _ => ?_)
      refine g_bipush X dX8_copy_14 (by decide +kernel) ?_
      exact g_iret X hr hlk dX8_copy_16 rfl ⟨_, rfl, (by omega), h⟩
  · skip
    refine g_if_eq X (tgt := 14) dX8_copy_4 (by decide) (by omega) (fun _ => ?_) (fun hc => absurd hc (by decide))
    refine g_bipush X dX8_copy_14 (by decide +kernel) ?_
    exact g_iret X hr hlk dX8_copy_16 rfl ⟨_, rfl, (by omega), h⟩
theorem eX8_copy {v1 : Int} {v2 : Int} {v3 : Int} {v4 : Int} {v5 : Int} {σ : ASt} {Q : Int → ASt → Prop} (h32v2 : i32 v2) (h32v4 : i32 v4) (h32v5 : i32 v5) (h : EvZ K_X8_isRow [.int (iI v1)] σ (fun s1 => EvZ K_X8_isRow [.int (iI v3)] s1 (fun s2 => ((0 : Int) ≤ v1 ∧ v1 < 3) ∧ i32 ((gI s2 93 v1)) ∧ (((gI s2 93 v1) = 0 → Q (-11) s2) ∧ ((gI s2 93 v1) ≠ 0 → ((0 : Int) ≤ v3 ∧ v3 < 3) ∧ i32 ((gI s2 93 v3)) ∧ (((gI s2 93 v3) ≠ 0 → ((v5 < 0 → Q (-12) s2) ∧ (0 ≤ v5 → ((v2 < 0 → Q (-12) s2) ∧ (0 ≤ v2 → ((v4 < 0 → Q (-12) s2) ∧ (0 ≤ v4 → i32 ((gI s2 94 v1)) ∧ i64 ((v2 + v5)) ∧ (((gI s2 94 v1) < (v2 + v5) → Q (-12) s2) ∧ ((v2 + v5) ≤ (gI s2 94 v1) → i32 ((gI s2 94 v3)) ∧ i64 ((v4 + v5)) ∧ (((v4 + v5) ≤ (gI s2 94 v3) → Wx K_X8_copy (QI Q) 93 [(0, .ref 72), (1, .int (iI v1)), (2, .int (iI v2)), (3, .int (iI v3)), (4, .int (iI v4)), (5, .int (iI v5)), (6, .int (iI 0))] [] s2) ∧ ((gI s2 94 v3) < (v4 + v5) → Q (-12) s2))))))))))) ∧ ((gI s2 93 v3) = 0 → Q (-11) s2))))) (fun s2 => Q (-2) s2)) (fun s1 => Q (-2) s1)) : EvI K_X8_copy [.ref 72, .int (iI v1), .int (iI v2), .int (iI v3), .int (iI v4), .int (iI v5)] σ Q := Ev.of rfl (Nat.le_of_ble_eq_true rfl) rfl (bX8_copy_0 h32v2 h32v4 h32v5 h)
theorem bX8_copy_93 {v1 : Int} {v2 : Int} {v3 : Int} {v4 : Int} {v5 : Int} {v6 : Int} {σ : ASt} {Q : Int → ASt → Prop} (h32v5 : i32 v5) (h32v6 : i32 v6) (h : ((v5 ≤ v6 → Wx K_X8_copy (QI Q) 130 [(0, .ref 72), (3, .int (iI v3)), (4, .int (iI v4)), (5, .int (iI v5)), (6, .int (iI 0))] [] σ) ∧ (v6 < v5 → ((0 : Int) ≤ (((60 * v1) + v2) + v6) ∧ (((60 * v1) + v2) + v6) < 180) ∧ ((0 : Int) ≤ v6 ∧ v6 < 60) ∧ Wx K_X8_copy (QI Q) 93 [(0, .ref 72), (1, .int (iI v1)), (2, .int (iI v2)), (3, .int (iI v3)), (4, .int (iI v4)), (5, .int (iI v5)), (6, .int (iI (v6 + 1)))] [] (sL σ 96 v6 (gL σ 95 (((60 * v1) + v2) + v6)))))) : Wx K_X8_copy (QI Q) 93 [(0, .ref 72), (1, .int (iI v1)), (2, .int (iI v2)), (3, .int (iI v3)), (4, .int (iI v4)), (5, .int (iI v5)), (6, .int (iI v6))] [] σ := by
  intro p l e s m args below meth c D cA ad X0 hr hlk
  have X : Cx p s m args c (adA ad) D cA ad RX8 cX8_copy 7 := X0
  refine g_iload X 6 dX8_copy_93 rfl ?_
  refine g_iload X 5 dX8_copy_95 rfl ?_
  refine g_icmp_ge X (tgt := 127) dX8_copy_97 (by decide) h32v6 h32v5 (fun c1 => ?_) (fun c1 => ?_)
  · have h := h.1 c1
    refine g_iconst X dX8_copy_127 ?_
    refine g_istore X (lv' := [(6, .int (iI 0)), (0, .ref 72), (1, .int (iI v1)), (2, .int (iI v2)), (3, .int (iI v3)), (4, .int (iI v4)), (5, .int (iI v5))]) dX8_copy_128 (by decide) rfl ?_
    exact g_sub (lv' := [(0, .ref 72), (3, .int (iI v3)), (4, .int (iI v4)), (5, .int (iI v5)), (6, .int (iI 0))]) [1, 4, 5, 6, 0] rfl (h p l e s m args below meth c D cA ad X0 hr hlk)
  · have h := h.2 c1
    refine g_aload_n X 0 dX8_copy_100 rfl ?_
    refine g_getF X (f := 96) dX8_copy_101 lf_X8_83 rfl rfl rfl ?_
    refine g_iload X 6 dX8_copy_104 rfl ?_
    refine g_aload_n X 0 dX8_copy_106 rfl ?_
    refine g_getF X (f := 95) dX8_copy_107 lf_X8_80 rfl rfl rfl ?_
    refine g_bipush X dX8_copy_110 (by decide +kernel) ?_
    refine g_iload_n X 1 dX8_copy_112 rfl ?_
    refine g_imul X dX8_copy_113 ?_
    refine g_iload_n X 2 dX8_copy_114 rfl ?_
    refine g_iadd X dX8_copy_115 ?_
    refine g_iload X 6 dX8_copy_116 rfl ?_
    refine g_iadd X dX8_copy_118 ?_
    obtain ⟨q2, h⟩ := h
    refine g_lald X dX8_copy_119 rfl q2.1 q2.2 ?_
    obtain ⟨q3, h⟩ := h
    refine g_last X dX8_copy_120 rfl q3.1 q3.2 ?_
    refine g_iinc X (x := v6) (lv' := [(6, .int (iI (v6 + 1))), (0, .ref 72), (1, .int (iI v1)), (2, .int (iI v2)), (3, .int (iI v3)), (4, .int (iI v4)), (5, .int (iI v5))]) 6 dX8_copy_121 rfl (by decide) rfl ?_
    refine g_goto X (tgt := 93) dX8_copy_124 (by decide) ?_
    exact g_sub (lv' := [(0, .ref 72), (1, .int (iI v1)), (2, .int (iI v2)), (3, .int (iI v3)), (4, .int (iI v4)), (5, .int (iI v5)), (6, .int (iI (v6 + 1)))]) [1, 2, 3, 4, 5, 6, 0] rfl (h p l e s m args below meth c D cA ad X0 hr hlk)
theorem bX8_copy_130 {v3 : Int} {v4 : Int} {v5 : Int} {v6 : Int} {σ : ASt} {Q : Int → ASt → Prop} (h32v5 : i32 v5) (h32v6 : i32 v6) (h : ((v5 ≤ v6 → Q v5 σ) ∧ (v6 < v5 → ((0 : Int) ≤ v6 ∧ v6 < 60) ∧ ((0 : Int) ≤ (((60 * v3) + v4) + v6) ∧ (((60 * v3) + v4) + v6) < 180) ∧ Wx K_X8_copy (QI Q) 130 [(0, .ref 72), (3, .int (iI v3)), (4, .int (iI v4)), (5, .int (iI v5)), (6, .int (iI (v6 + 1)))] [] (sL σ 95 (((60 * v3) + v4) + v6) (gL σ 96 v6))))) : Wx K_X8_copy (QI Q) 130 [(0, .ref 72), (3, .int (iI v3)), (4, .int (iI v4)), (5, .int (iI v5)), (6, .int (iI v6))] [] σ := by
  intro p l e s m args below meth c D cA ad X0 hr hlk
  have X : Cx p s m args c (adA ad) D cA ad RX8 cX8_copy 7 := X0
  refine g_iload X 4 dX8_copy_130 rfl ?_
  refine g_iload X 3 dX8_copy_132 rfl ?_
  refine g_icmp_ge X (tgt := 165) dX8_copy_134 (by decide) h32v6 h32v5 (fun c1 => ?_) (fun c1 => ?_)
  · have h := h.1 c1
    refine g_iload X 3 dX8_copy_165 rfl ?_
    exact g_iret X hr hlk dX8_copy_167 rfl ⟨_, rfl, h32v5, h⟩
  · have h := h.2 c1
    refine g_aload_n X 0 dX8_copy_137 rfl ?_
    refine g_getF X (f := 95) dX8_copy_138 lf_X8_80 rfl rfl rfl ?_
    refine g_bipush X dX8_copy_141 (by decide +kernel) ?_
    refine g_iload_n X 1 dX8_copy_143 rfl ?_
    refine g_imul X dX8_copy_144 ?_
    refine g_iload X 2 dX8_copy_145 rfl ?_
    refine g_iadd X dX8_copy_147 ?_
    refine g_iload X 4 dX8_copy_148 rfl ?_
    refine g_iadd X dX8_copy_150 ?_
    refine g_aload_n X 0 dX8_copy_151 rfl ?_
    refine g_getF X (f := 96) dX8_copy_152 lf_X8_83 rfl rfl rfl ?_
    refine g_iload X 4 dX8_copy_155 rfl ?_
    obtain ⟨q2, h⟩ := h
    refine g_lald X dX8_copy_157 rfl q2.1 q2.2 ?_
    obtain ⟨q3, h⟩ := h
    refine g_last X dX8_copy_158 rfl q3.1 q3.2 ?_
    refine g_iinc X (x := v6) (lv' := [(6, .int (iI (v6 + 1))), (0, .ref 72), (3, .int (iI v3)), (4, .int (iI v4)), (5, .int (iI v5))]) 4 dX8_copy_159 rfl (by decide) rfl ?_
    refine g_goto X (tgt := 130) dX8_copy_162 (by decide) ?_
    exact g_sub (lv' := [(0, .ref 72), (3, .int (iI v3)), (4, .int (iI v4)), (5, .int (iI v5)), (6, .int (iI (v6 + 1)))]) [1, 2, 3, 4, 0] rfl (h p l e s m args below meth c D cA ad X0 hr hlk)
theorem bX8_full_0 {σ : ASt} {Q : Int → ASt → Prop}  (h : Wx K_X8_full (QI Q) 4 [(0, .ref 72), (1, .int (iI 0)), (2, .int (iI 0))] [] σ) : Wx K_X8_full (QI Q) 0 [(0, .ref 72)] [] σ := by
  intro p l e s m args below meth c D cA ad X0 hr hlk
  have X : Cx p s m args c (adA ad) D cA ad RX8 cX8_full 3 := X0
  refine g_iconst X dX8_full_0 ?_
  refine g_istore_n X (lv' := [(1, .int (iI 0)), (0, .ref 72)]) dX8_full_1 (by decide) rfl ?_
  refine g_iconst X dX8_full_2 ?_
  refine g_istore_n X (lv' := [(2, .int (iI 0)), (1, .int (iI 0)), (0, .ref 72)]) dX8_full_3 (by decide) rfl ?_
  exact g_sub (lv' := [(0, .ref 72), (1, .int (iI 0)), (2, .int (iI 0))]) [2, 1, 0] rfl (h p l e s m args below meth c D cA ad X0 hr hlk)
theorem eX8_full {σ : ASt} {Q : Int → ASt → Prop}  (h : Wx K_X8_full (QI Q) 4 [(0, .ref 72), (1, .int (iI 0)), (2, .int (iI 0))] [] σ) : EvI K_X8_full [.ref 72] σ Q := Ev.of rfl (Nat.le_of_ble_eq_true rfl) rfl (bX8_full_0  h)
theorem bX8_full_4 {v1 : Int} {v2 : Int} {σ : ASt} {Q : Int → ASt → Prop} (h32v1 : i32 v1) (h32v2 : i32 v2) (h : ((6 ≤ v2 → Q v1 σ) ∧ (v2 < 6 → EvZ K_X8_isEmpty [.ref 72, .int (iI v2)] σ (fun s2 => Wx K_X8_full (QI Q) 4 [(0, .ref 72), (1, .int (iI (v1 + 0))), (2, .int (iI (v2 + 1)))] [] s2) (fun s2 => Wx K_X8_full (QI Q) 4 [(0, .ref 72), (1, .int (iI (v1 + 1))), (2, .int (iI (v2 + 1)))] [] s2)))) : Wx K_X8_full (QI Q) 4 [(0, .ref 72), (1, .int (iI v1)), (2, .int (iI v2))] [] σ := by
  intro p l e s m args below meth c D cA ad X0 hr hlk
  have X : Cx p s m args c (adA ad) D cA ad RX8 cX8_full 3 := X0
  refine g_iload_n X 2 dX8_full_4 rfl ?_
  refine g_bipush X dX8_full_5 (by decide +kernel) ?_
  refine g_icmp_ge X (tgt := 32) dX8_full_7 (by decide) h32v2 (by omega) (fun c1 => ?_) (fun c1 => ?_)
  · have h := h.1 c1
    refine g_iload_n X 1 dX8_full_32 rfl ?_
    exact g_iret X hr hlk dX8_full_33 rfl ⟨_, rfl, h32v1, h⟩
  · have h := h.2 c1
    refine g_iload_n X 1 dX8_full_10 rfl ?_
    refine g_aload_n X 0 dX8_full_11 rfl ?_
    refine g_iload_n X 2 dX8_full_12 rfl ?_
    refine g_cVZ X (K := K_X8_isEmpty) [.int (iI v2)] [.int (iI v1)] dX8_full_13 lv_X8_159 rm_X8_full_X8_isEmpty ⟨by decide, by decide⟩ adA_id rfl rfl rfl (Nat.le_of_ble_eq_true rfl) rfl h (fun s2 h => ?_) (fun s2 h => ?_)
    · skip
      refine g_if_eq X (tgt := 23) dX8_full_16 (by decide) (by omega) (fun hc => absurd hc (by decide)) (fun _ => ?_)
      refine g_iconst X dX8_full_19 ?_
      refine g_goto X (tgt := 24) dX8_full_20 (by decide) ?_
      refine g_iadd X dX8_full_24 ?_
      refine g_istore_n X (lv' := [(1, .int (iI (v1 + 0))), (0, .ref 72), (2, .int (iI v2))]) dX8_full_25 (by decide) rfl ?_
      refine g_iinc X (x := v2) (lv' := [(2, .int (iI (v2 + 1))), (1, .int (iI (v1 + 0))), (0, .ref 72)]) 2 dX8_full_26 rfl (by decide) rfl ?_
      refine g_goto X (tgt := 4) dX8_full_29 (by decide) ?_
      exact g_sub (lv' := [(0, .ref 72), (1, .int (iI (v1 + 0))), (2, .int (iI (v2 + 1)))]) [2, 1, 0] rfl (h p l e s m args below meth c D cA ad X0 hr hlk)
    · skip
      refine g_if_eq X (tgt := 23) dX8_full_16 (by decide) (by omega) (fun _ => ?_) (fun hc => absurd hc (by decide))
      refine g_iconst X dX8_full_23 ?_
      refine g_iadd X dX8_full_24 ?_
      refine g_istore_n X (lv' := [(1, .int (iI (v1 + 1))), (0, .ref 72), (2, .int (iI v2))]) dX8_full_25 (by decide) rfl ?_
      refine g_iinc X (x := v2) (lv' := [(2, .int (iI (v2 + 1))), (1, .int (iI (v1 + 1))), (0, .ref 72)]) 2 dX8_full_26 rfl (by decide) rfl ?_
      refine g_goto X (tgt := 4) dX8_full_29 (by decide) ?_
      exact g_sub (lv' := [(0, .ref 72), (1, .int (iI (v1 + 1))), (2, .int (iI (v2 + 1)))]) [2, 1, 0] rfl (h p l e s m args below meth c D cA ad X0 hr hlk)
theorem bX8_count_0 {v1 : Int} {σ : ASt} {Q : Int → ASt → Prop} (h32v1 : i32 v1) (h : ((v1 = 0 → EvI K_X8_full [.ref 72] σ (fun x3 s2 => Q x3 s2)) ∧ (v1 = 1 → i32 ((gI σ 72 10)) ∧ Q (gI σ 72 10) σ) ∧ (v1 = 2 → i32 ((gI σ 72 23)) ∧ Q (gI σ 72 23) σ) ∧ (v1 = 3 → Wx K_X8_count (QI Q) 49 [(0, .ref 72), (2, .int (iI 0)), (3, .int (iI 0))] [] σ) ∧ (v1 < 0 ∨ 3 < v1 → Q (-2) σ))) : Wx K_X8_count (QI Q) 0 [(0, .ref 72), (1, .int (iI v1))] [] σ := by
  intro p l e s m args below meth c D cA ad X0 hr hlk
  have X : Cx p s m args c (adA ad) D cA ad RX8 cX8_count 4 := X0
  refine g_iconst X dX8_count_0 ?_
  refine g_istore_n X (lv' := [(2, .int (iI 0)), (0, .ref 72), (1, .int (iI v1))]) dX8_count_1 (by decide) rfl ?_
  refine g_iload_n X 2 dX8_count_2 rfl ?_
  by_cases c1 : v1 = 0
  · have h := h.1 c1
    refine g_tswIn X (tgt := 32) 0 dX8_count_3 h32v1 (by omega) (by omega) rfl (by decide) ?_
    refine g_aload_n X 1 dX8_count_32 rfl ?_
    refine g_cVI X (K := K_X8_full) [] [] dX8_count_33 lv_X8_261 rm_X8_count_X8_full ⟨by decide, by decide⟩ adA_id rfl rfl rfl (Nat.le_of_ble_eq_true rfl) rfl h (fun x3 s2 q4 h => ?_)
    exact g_iret X hr hlk dX8_count_36 rfl ⟨_, rfl, q4, h⟩
  by_cases c5 : v1 = 1
  · have h := h.2.1 c5
    refine g_tswIn X (tgt := 37) 1 dX8_count_3 h32v1 (by omega) (by omega) rfl (by decide) ?_
    refine g_aload_n X 1 dX8_count_37 rfl ?_
    refine g_getI X (z := 10) dX8_count_38 lf_X8_178 rfl rfl rfl ?_
    obtain ⟨q6, h⟩ := h
    exact g_iret X hr hlk dX8_count_41 rfl ⟨_, rfl, q6, h⟩
  by_cases c7 : v1 = 2
  · have h := h.2.2.1 c7
    refine g_tswIn X (tgt := 42) 2 dX8_count_3 h32v1 (by omega) (by omega) rfl (by decide) ?_
    refine g_aload_n X 1 dX8_count_42 rfl ?_
    refine g_getI X (z := 23) dX8_count_43 lf_X8_234 rfl rfl rfl ?_
    obtain ⟨q8, h⟩ := h
    exact g_iret X hr hlk dX8_count_46 rfl ⟨_, rfl, q8, h⟩
  by_cases c9 : v1 = 3
  · have h := h.2.2.2.1 c9
    refine g_tswIn X (tgt := 47) 3 dX8_count_3 h32v1 (by omega) (by omega) rfl (by decide) ?_
    refine g_iconst X dX8_count_47 ?_
    refine g_istore_n X (lv' := [(3, .int (iI 0)), (2, .int (iI 0)), (0, .ref 72), (1, .int (iI v1))]) dX8_count_48 (by decide) rfl ?_
    exact g_sub (lv' := [(0, .ref 72), (2, .int (iI 0)), (3, .int (iI 0))]) [2, 1, 0] rfl (h p l e s m args below meth c D cA ad X0 hr hlk)
  have h := h.2.2.2.2 (by omega)
  refine g_tswOut X (tgt := 79) dX8_count_3 h32v1 (by omega) (by decide) ?_
  refine g_bipush X dX8_count_79 (by decide +kernel) ?_
  exact g_iret X hr hlk dX8_count_81 rfl ⟨_, rfl, (by omega), h⟩
theorem eX8_count {v1 : Int} {σ : ASt} {Q : Int → ASt → Prop} (h32v1 : i32 v1) (h : ((v1 = 0 → EvI K_X8_full [.ref 72] σ (fun x3 s2 => Q x3 s2)) ∧ (v1 = 1 → i32 ((gI σ 72 10)) ∧ Q (gI σ 72 10) σ) ∧ (v1 = 2 → i32 ((gI σ 72 23)) ∧ Q (gI σ 72 23) σ) ∧ (v1 = 3 → Wx K_X8_count (QI Q) 49 [(0, .ref 72), (2, .int (iI 0)), (3, .int (iI 0))] [] σ) ∧ (v1 < 0 ∨ 3 < v1 → Q (-2) σ))) : EvI K_X8_count [.ref 72, .int (iI v1)] σ Q := Ev.of rfl (Nat.le_of_ble_eq_true rfl) rfl (bX8_count_0 h32v1 h)
theorem bX8_count_49 {v2 : Int} {v3 : Int} {σ : ASt} {Q : Int → ASt → Prop} (h32v2 : i32 v2) (h32v3 : i32 v3) (h : ((3 ≤ v3 → Q v2 σ) ∧ (v3 < 3 → ((0 : Int) ≤ v3 ∧ v3 < 3) ∧ i32 ((gI σ 93 v3)) ∧ (((gI σ 93 v3) = 0 → Wx K_X8_count (QI Q) 49 [(0, .ref 72), (2, .int (iI (v2 + 0))), (3, .int (iI (v3 + 1)))] [] σ) ∧ ((gI σ 93 v3) ≠ 0 → Wx K_X8_count (QI Q) 49 [(0, .ref 72), (2, .int (iI (v2 + 1))), (3, .int (iI (v3 + 1)))] [] σ))))) : Wx K_X8_count (QI Q) 49 [(0, .ref 72), (2, .int (iI v2)), (3, .int (iI v3))] [] σ := by
  intro p l e s m args below meth c D cA ad X0 hr hlk
  have X : Cx p s m args c (adA ad) D cA ad RX8 cX8_count 4 := X0
  refine g_iload_n X 2 dX8_count_49 rfl ?_
  refine g_iconst X dX8_count_50 ?_
  refine g_icmp_ge X (tgt := 77) dX8_count_51 (by decide) h32v3 (by omega) (fun c1 => ?_) (fun c1 => ?_)
  · have h := h.1 c1
    refine g_iload_n X 1 dX8_count_77 rfl ?_
    exact g_iret X hr hlk dX8_count_78 rfl ⟨_, rfl, h32v2, h⟩
  · have h := h.2 c1
    refine g_iload_n X 1 dX8_count_54 rfl ?_
    refine g_aload_n X 0 dX8_count_55 rfl ?_
    refine g_getF X (f := 93) dX8_count_56 lf_X8_73 rfl rfl rfl ?_
    refine g_iload_n X 2 dX8_count_59 rfl ?_
    obtain ⟨q2, h⟩ := h
    refine g_zald X dX8_count_60 rfl q2.1 q2.2 ?_
    obtain ⟨q3, h⟩ := h
    refine g_if_eq X (tgt := 68) dX8_count_61 (by decide) q3 (fun c4 => ?_) (fun c4 => ?_)
    · have h := h.1 c4
      refine g_iconst X dX8_count_68 ?_
      refine g_iadd X dX8_count_69 ?_
      refine g_istore_n X (lv' := [(2, .int (iI (v2 + 0))), (0, .ref 72), (3, .int (iI v3))]) dX8_count_70 (by decide) rfl ?_
      refine g_iinc X (x := v3) (lv' := [(3, .int (iI (v3 + 1))), (2, .int (iI (v2 + 0))), (0, .ref 72)]) 2 dX8_count_71 rfl (by decide) rfl ?_
      refine g_goto X (tgt := 49) dX8_count_74 (by decide) ?_
      exact g_sub (lv' := [(0, .ref 72), (2, .int (iI (v2 + 0))), (3, .int (iI (v3 + 1)))]) [2, 1, 0] rfl (h p l e s m args below meth c D cA ad X0 hr hlk)
    · have h := h.2 c4
      refine g_iconst X dX8_count_64 ?_
      refine g_goto X (tgt := 69) dX8_count_65 (by decide) ?_
      refine g_iadd X dX8_count_69 ?_
      refine g_istore_n X (lv' := [(2, .int (iI (v2 + 1))), (0, .ref 72), (3, .int (iI v3))]) dX8_count_70 (by decide) rfl ?_
      refine g_iinc X (x := v3) (lv' := [(3, .int (iI (v3 + 1))), (2, .int (iI (v2 + 1))), (0, .ref 72)]) 2 dX8_count_71 rfl (by decide) rfl ?_
      refine g_goto X (tgt := 49) dX8_count_74 (by decide) ?_
      exact g_sub (lv' := [(0, .ref 72), (2, .int (iI (v2 + 1))), (3, .int (iI (v3 + 1)))]) [2, 1, 0] rfl (h p l e s m args below meth c D cA ad X0 hr hlk)
theorem bX8_makes_0 {v1 : Int} {v2 : Int} {σ : ASt} {Q : ASt → Prop}  (h : ((0 : Int) ≤ v1 ∧ v1 < 3) ∧ Wx K_X8_makes (QV Q) 13 [(0, .ref 72), (1, .int (iI v1)), (4, .long (lI v2)), (6, .int (iI ((gI σ 75 v1) - 1)))] [] σ) : Wx K_X8_makes (QV Q) 0 [(0, .ref 72), (1, .int (iI v1)), (2, .long (lI v2))] [] σ := by
  intro p l e s m args below meth c D cA ad X0 hr hlk
  have X : Cx p s m args c (adA ad) D cA ad RX8 cX8_makes 7 := X0
  refine g_lload_n X 2 dX8_makes_0 rfl ?_
  refine g_lstore X (lv' := [(4, .long (lI v2)), (0, .ref 72), (1, .int (iI v1)), (2, .long (lI v2))]) dX8_makes_1 (by decide) rfl ?_
  refine g_aload_n X 1 dX8_makes_3 rfl ?_
  refine g_getF X (f := 75) dX8_makes_4 lf_X8_18 rfl rfl rfl ?_
  refine g_iload_n X 2 dX8_makes_7 rfl ?_
  obtain ⟨q1, h⟩ := h
  refine g_iald X dX8_makes_8 rfl q1.1 q1.2 ?_
  refine g_iconst X dX8_makes_9 ?_
  refine g_isub X dX8_makes_10 ?_
  refine g_istore X (lv' := [(6, .int (iI ((gI σ 75 v1) - 1))), (4, .long (lI v2)), (0, .ref 72), (1, .int (iI v1)), (2, .long (lI v2))]) dX8_makes_11 (by decide) rfl ?_
  exact g_sub (lv' := [(0, .ref 72), (1, .int (iI v1)), (4, .long (lI v2)), (6, .int (iI ((gI σ 75 v1) - 1)))]) [2, 3, 1, 0] rfl (h p l e s m args below meth c D cA ad X0 hr hlk)
theorem eX8_makes {v1 : Int} {v2 : Int} {σ : ASt} {Q : ASt → Prop}  (h : ((0 : Int) ≤ v1 ∧ v1 < 3) ∧ Wx K_X8_makes (QV Q) 13 [(0, .ref 72), (1, .int (iI v1)), (4, .long (lI v2)), (6, .int (iI ((gI σ 75 v1) - 1)))] [] σ) : EvV K_X8_makes [.ref 72, .int (iI v1), .long (lI v2)] σ Q := Ev.of rfl (Nat.le_of_ble_eq_true rfl) rfl (bX8_makes_0  h)
theorem bX8_makes_13 {v1 : Int} {v4 : Int} {v6 : Int} {σ : ASt} {Q : ASt → Prop} (h32v6 : i32 v6) (h64v4 : i64 v4) (h : ((v6 < 0 → Q σ) ∧ (0 ≤ v6 → EvL K_X8_worth [.ref 72, .int (iI v1), .int (iI v6)] σ (fun x3 s2 => x3 ≠ 0 ∧ ((0 : Int) ≤ v6 ∧ v6 < 50) ∧ EvL K_X8_worth [.ref 72, .int (iI v1), .int (iI v6)] (sI s2 80 v6 (Int.tdiv v4 x3)) (fun x8 s7 => x8 ≠ 0 ∧ Wx K_X8_makes (QV Q) 13 [(0, .ref 72), (1, .int (iI v1)), (4, .long (lI (Int.tmod v4 x8))), (6, .int (iI (v6 + (-1))))] [] s7))))) : Wx K_X8_makes (QV Q) 13 [(0, .ref 72), (1, .int (iI v1)), (4, .long (lI v4)), (6, .int (iI v6))] [] σ := by
  intro p l e s m args below meth c D cA ad X0 hr hlk
  have X : Cx p s m args c (adA ad) D cA ad RX8 cX8_makes 7 := X0
  refine g_iload X 3 dX8_makes_13 rfl ?_
  refine g_if_lt X (tgt := 54) dX8_makes_15 (by decide) h32v6 (fun c1 => ?_) (fun c1 => ?_)
  · have h := h.1 c1
    exact g_vret X hr hlk dX8_makes_54 ⟨rfl, h⟩
  · have h := h.2 c1
    refine g_aload_n X 0 dX8_makes_18 rfl ?_
    refine g_getF X (f := 80) dX8_makes_19 lf_X8_34 rfl rfl rfl ?_
    refine g_iload X 3 dX8_makes_22 rfl ?_
    refine g_lload X 2 dX8_makes_24 rfl ?_
    refine g_aload_n X 0 dX8_makes_26 rfl ?_
    refine g_iload_n X 1 dX8_makes_27 rfl ?_
    refine g_iload X 3 dX8_makes_28 rfl ?_
    refine g_cVL X (K := K_X8_worth) [.int (iI v1), .int (iI v6)] [.long (lI v4), .int (iI v6), .ref 80] dX8_makes_30 lv_X8_129 rm_X8_makes_X8_worth ⟨by decide, by decide⟩ adA_id rfl rfl rfl (Nat.le_of_ble_eq_true rfl) rfl h (fun x3 s2 q4 h => ?_)
    obtain ⟨q5, h⟩ := h
    refine g_ldiv X dX8_makes_33 h64v4 q4 q5 ?_
    refine g_l2i X dX8_makes_34 ?_
    obtain ⟨q6, h⟩ := h
    refine g_iast X dX8_makes_35 rfl q6.1 q6.2 ?_
    refine g_lload X 2 dX8_makes_36 rfl ?_
    refine g_aload_n X 0 dX8_makes_38 rfl ?_
    refine g_iload_n X 1 dX8_makes_39 rfl ?_
    refine g_iload X 3 dX8_makes_40 rfl ?_
    refine g_cVL X (K := K_X8_worth) [.int (iI v1), .int (iI v6)] [.long (lI v4)] dX8_makes_42 lv_X8_129 rm_X8_makes_X8_worth ⟨by decide, by decide⟩ adA_id rfl rfl rfl (Nat.le_of_ble_eq_true rfl) rfl h (fun x8 s7 q9 h => ?_)
    obtain ⟨q10, h⟩ := h
    refine g_lrem X dX8_makes_45 h64v4 q9 q10 ?_
    refine g_lstore X (lv' := [(4, .long (lI (Int.tmod v4 x8))), (0, .ref 72), (1, .int (iI v1)), (6, .int (iI v6))]) dX8_makes_46 (by decide) rfl ?_
    refine g_iinc X (x := v6) (lv' := [(6, .int (iI (v6 + (-1)))), (4, .long (lI (Int.tmod v4 x8))), (0, .ref 72), (1, .int (iI v1))]) 3 dX8_makes_48 rfl (by decide) rfl ?_
    refine g_goto X (tgt := 13) dX8_makes_51 (by decide) ?_
    exact g_sub (lv' := [(0, .ref 72), (1, .int (iI v1)), (4, .long (lI (Int.tmod v4 x8))), (6, .int (iI (v6 + (-1))))]) [2, 3, 1, 0] rfl (h p l e s m args below meth c D cA ad X0 hr hlk)
theorem bX8_crossed_0 {v1 : Int} {v2 : Int} {v3 : Int} {σ : ASt} {Q : Int → ASt → Prop} (h64v3 : i64 v3) (h : EvZ K_X8_isBase [.int (iI v1)] σ (fun s1 => EvZ K_X8_isBase [.int (iI v2)] s1 (fun s2 => ((0 ≤ v3 → ((0 : Int) ≤ v1 ∧ v1 < 3) ∧ i64 ((gL s2 77 v1)) ∧ (((gL s2 77 v1) < v3 → Q (-3) s2) ∧ (v3 ≤ (gL s2 77 v1) → ((0 : Int) ≤ v2 ∧ v2 < 3) ∧ i64 ((gL s2 77 v2)) ∧ ((v3 ≤ (gL s2 77 v2) → EvV K_X8_makes [.ref 72, .int (iI v1), .long (lI v3)] s2 (fun s10 => Wx K_X8_crossed (QI Q) 57 [(0, .ref 72), (1, .int (iI v1)), (2, .int (iI v2)), (3, .long (lI v3)), (5, .int (iI 0))] [] s10)) ∧ ((gL s2 77 v2) < v3 → Q (-3) s2))))) ∧ (v3 < 0 → Q (-2) s2))) (fun s2 => Q (-2) s2)) (fun s1 => Q (-2) s1)) : Wx K_X8_crossed (QI Q) 0 [(0, .ref 72), (1, .int (iI v1)), (2, .int (iI v2)), (3, .long (lI v3))] [] σ := by
  intro p l e s m args below meth c D cA ad X0 hr hlk
  have X : Cx p s m args c (adA ad) D cA ad RX8 cX8_crossed 7 := X0
  refine g_iload_n X 1 dX8_crossed_0 rfl ?_
  refine g_cSZ X (K := K_X8_isBase) [.int (iI v1)] [] dX8_crossed_1 ls_X8_114 rm_X8_crossed_X8_isBase ⟨by decide, by decide⟩ adA_id rfl (Nat.le_of_ble_eq_true rfl) rfl h (fun s1 h => ?_) (fun s1 h => ?_)
  · skip
    refine g_if_eq X (tgt := 20) dX8_crossed_4 (by decide) (by omega) (fun hc => absurd hc (by decide)) (fun _ => ?_)
    refine g_iload_n X 2 dX8_crossed_7 rfl ?_
    refine g_cSZ X (K := K_X8_isBase) [.int (iI v2)] [] dX8_crossed_8 ls_X8_114 rm_X8_crossed_X8_isBase ⟨by decide, by decide⟩ adA_id rfl (Nat.le_of_ble_eq_true rfl) rfl h (fun s2 h => ?_) (fun s2 h => ?_)
    · skip
      refine g_if_eq X (tgt := 20) dX8_crossed_11 (by decide) (by omega) (fun hc => absurd hc (by decide)) (fun _ => ?_)
      refine g_lload_n X 3 dX8_crossed_14 rfl ?_
      refine g_lconst X (z := 0) dX8_crossed_15 (by decide +kernel) ?_
      refine g_lc_ge X (tgt := 23) dX8_crossed_16 dX8_crossed_17 (by decide) h64v3 (by omega) (fun c3 => ?_) (fun c3 => ?_)
      · have h := h.1 c3
        refine g_lload_n X 3 dX8_crossed_23 rfl ?_
        refine g_aload_n X 0 dX8_crossed_24 rfl ?_
        refine g_getF X (f := 77) dX8_crossed_25 lf_X8_25 rfl rfl rfl ?_
        refine g_iload_n X 1 dX8_crossed_28 rfl ?_
        obtain ⟨q4, h⟩ := h
        refine g_lald X dX8_crossed_29 rfl q4.1 q4.2 ?_
        obtain ⟨q5, h⟩ := h
        refine g_lc_gt X (tgt := 45) dX8_crossed_30 dX8_crossed_31 (by decide) h64v3 q5 (fun c6 => ?_) (fun c6 => ?_)
        · have h := h.1 c6
          refine g_bipush X dX8_crossed_45 (by decide +kernel) ?_
          exact g_iret X hr hlk dX8_crossed_47 rfl ⟨_, rfl, (by omega), h⟩
        · have h := h.2 c6
          refine g_lload_n X 3 dX8_crossed_34 rfl ?_
          refine g_aload_n X 0 dX8_crossed_35 rfl ?_
          refine g_getF X (f := 77) dX8_crossed_36 lf_X8_25 rfl rfl rfl ?_
          refine g_iload_n X 2 dX8_crossed_39 rfl ?_
          obtain ⟨q7, h⟩ := h
          refine g_lald X dX8_crossed_40 rfl q7.1 q7.2 ?_
          obtain ⟨q8, h⟩ := h
          refine g_lc_le X (tgt := 48) dX8_crossed_41 dX8_crossed_42 (by decide) h64v3 q8 (fun c9 => ?_) (fun c9 => ?_)
          · have h := h.1 c9
            refine g_aload_n X 0 dX8_crossed_48 rfl ?_
            refine g_iload_n X 1 dX8_crossed_49 rfl ?_
            refine g_lload_n X 3 dX8_crossed_50 rfl ?_
            refine g_cVV X (K := K_X8_makes) [.int (iI v1), .long (lI v3)] [] dX8_crossed_51 lv_X8_152 rm_X8_crossed_X8_makes ⟨by decide, by decide⟩ adA_id rfl rfl rfl (Nat.le_of_ble_eq_true rfl) rfl h (fun s10 h => ?_)
            refine g_iconst X dX8_crossed_54 ?_
            refine g_istore X (lv' := [(5, .int (iI 0)), (0, .ref 72), (1, .int (iI v1)), (2, .int (iI v2)), (3, .long (lI v3))]) dX8_crossed_55 (by decide) rfl ?_
            exact g_sub (lv' := [(0, .ref 72), (1, .int (iI v1)), (2, .int (iI v2)), (3, .long (lI v3)), (5, .int (iI 0))]) [1, 2, 3, 4, 0] rfl (h p l e s m args below meth c D cA ad X0 hr hlk)
          · have h := h.2 c9
            refine g_bipush X dX8_crossed_45 (by decide +kernel) ?_
            exact g_iret X hr hlk dX8_crossed_47 rfl ⟨_, rfl, (by omega), h⟩
      · have h := h.2 c3
        refine g_bipush X dX8_crossed_20 (by decide +kernel) ?_
        exact g_iret X hr hlk dX8_crossed_22 rfl ⟨_, rfl, (by omega), h⟩
    · skip
      refine g_if_eq X (tgt := 20) dX8_crossed_11 (by decide) (by omega) (fun _ => ?_) (fun hc => absurd hc (by decide))
      refine g_bipush X dX8_crossed_20 (by decide +kernel) ?_
      exact g_iret X hr hlk dX8_crossed_22 rfl ⟨_, rfl, (by omega), h⟩
  · skip
    refine g_if_eq X (tgt := 20) dX8_crossed_4 (by decide) (by omega) (fun _ => ?_) (fun hc => absurd hc (by decide))
    refine g_bipush X dX8_crossed_20 (by decide +kernel) ?_
    exact g_iret X hr hlk dX8_crossed_22 rfl ⟨_, rfl, (by omega), h⟩
theorem eX8_crossed {v1 : Int} {v2 : Int} {v3 : Int} {σ : ASt} {Q : Int → ASt → Prop} (h64v3 : i64 v3) (h : EvZ K_X8_isBase [.int (iI v1)] σ (fun s1 => EvZ K_X8_isBase [.int (iI v2)] s1 (fun s2 => ((0 ≤ v3 → ((0 : Int) ≤ v1 ∧ v1 < 3) ∧ i64 ((gL s2 77 v1)) ∧ (((gL s2 77 v1) < v3 → Q (-3) s2) ∧ (v3 ≤ (gL s2 77 v1) → ((0 : Int) ≤ v2 ∧ v2 < 3) ∧ i64 ((gL s2 77 v2)) ∧ ((v3 ≤ (gL s2 77 v2) → EvV K_X8_makes [.ref 72, .int (iI v1), .long (lI v3)] s2 (fun s10 => Wx K_X8_crossed (QI Q) 57 [(0, .ref 72), (1, .int (iI v1)), (2, .int (iI v2)), (3, .long (lI v3)), (5, .int (iI 0))] [] s10)) ∧ ((gL s2 77 v2) < v3 → Q (-3) s2))))) ∧ (v3 < 0 → Q (-2) s2))) (fun s2 => Q (-2) s2)) (fun s1 => Q (-2) s1)) : EvI K_X8_crossed [.ref 72, .int (iI v1), .int (iI v2), .long (lI v3)] σ Q := Ev.of rfl (Nat.le_of_ble_eq_true rfl) rfl (bX8_crossed_0 h64v3 h)
theorem bX8_crossed_57 {v1 : Int} {v2 : Int} {v3 : Int} {v5 : Int} {σ : ASt} {Q : Int → ASt → Prop} (h32v5 : i32 v5) (h : ((0 : Int) ≤ v1 ∧ v1 < 3) ∧ i32 ((gI σ 75 v1)) ∧ (((gI σ 75 v1) ≤ v5 → EvV K_X8_makes [.ref 72, .int (iI v2), .long (lI v3)] σ (fun s4 => Wx K_X8_crossed (QI Q) 100 [(0, .ref 72), (1, .int (iI v1)), (2, .int (iI v2)), (5, .int (iI 0)), (6, .int (iI 0))] [] s4)) ∧ (v5 < (gI σ 75 v1) → ((0 : Int) ≤ v5 ∧ v5 < 50) ∧ Wx K_X8_crossed (QI Q) 57 [(0, .ref 72), (1, .int (iI v1)), (2, .int (iI v2)), (3, .long (lI v3)), (5, .int (iI (v5 + 1)))] [] (sI σ 90 v5 (gI σ 80 v5))))) : Wx K_X8_crossed (QI Q) 57 [(0, .ref 72), (1, .int (iI v1)), (2, .int (iI v2)), (3, .long (lI v3)), (5, .int (iI v5))] [] σ := by
  intro p l e s m args below meth c D cA ad X0 hr hlk
  have X : Cx p s m args c (adA ad) D cA ad RX8 cX8_crossed 7 := X0
  refine g_iload X 4 dX8_crossed_57 rfl ?_
  refine g_aload_n X 0 dX8_crossed_59 rfl ?_
  refine g_getF X (f := 75) dX8_crossed_60 lf_X8_18 rfl rfl rfl ?_
  refine g_iload_n X 1 dX8_crossed_63 rfl ?_
  obtain ⟨q1, h⟩ := h
  refine g_iald X dX8_crossed_64 rfl q1.1 q1.2 ?_
  obtain ⟨q2, h⟩ := h
  refine g_icmp_ge X (tgt := 88) dX8_crossed_65 (by decide) h32v5 q2 (fun c3 => ?_) (fun c3 => ?_)
  · have h := h.1 c3
    refine g_aload_n X 0 dX8_crossed_88 rfl ?_
    refine g_iload_n X 2 dX8_crossed_89 rfl ?_
    refine g_lload_n X 3 dX8_crossed_90 rfl ?_
    refine g_cVV X (K := K_X8_makes) [.int (iI v2), .long (lI v3)] [] dX8_crossed_91 lv_X8_152 rm_X8_crossed_X8_makes ⟨by decide, by decide⟩ adA_id rfl rfl rfl (Nat.le_of_ble_eq_true rfl) rfl h (fun s4 h => ?_)
    refine g_iconst X dX8_crossed_94 ?_
    refine g_istore X (lv' := [(5, .int (iI 0)), (0, .ref 72), (1, .int (iI v1)), (2, .int (iI v2)), (3, .long (lI v3))]) dX8_crossed_95 (by decide) rfl ?_
    refine g_iconst X dX8_crossed_97 ?_
    refine g_istore X (lv' := [(6, .int (iI 0)), (5, .int (iI 0)), (0, .ref 72), (1, .int (iI v1)), (2, .int (iI v2)), (3, .long (lI v3))]) dX8_crossed_98 (by decide) rfl ?_
    exact g_sub (lv' := [(0, .ref 72), (1, .int (iI v1)), (2, .int (iI v2)), (5, .int (iI 0)), (6, .int (iI 0))]) [2, 3, 4, 1, 0] rfl (h p l e s m args below meth c D cA ad X0 hr hlk)
  · have h := h.2 c3
    refine g_aload_n X 0 dX8_crossed_68 rfl ?_
    refine g_getF X (f := 90) dX8_crossed_69 lf_X8_64 rfl rfl rfl ?_
    refine g_iload X 4 dX8_crossed_72 rfl ?_
    refine g_aload_n X 0 dX8_crossed_74 rfl ?_
    refine g_getF X (f := 80) dX8_crossed_75 lf_X8_34 rfl rfl rfl ?_
    refine g_iload X 4 dX8_crossed_78 rfl ?_
    obtain ⟨q5, h⟩ := h
    refine g_iald X dX8_crossed_80 rfl q5.1 q5.2 ?_
    refine g_iast X dX8_crossed_81 rfl q5.1 q5.2 ?_
    refine g_iinc X (x := v5) (lv' := [(5, .int (iI (v5 + 1))), (0, .ref 72), (1, .int (iI v1)), (2, .int (iI v2)), (3, .long (lI v3))]) 4 dX8_crossed_82 rfl (by decide) rfl ?_
    refine g_goto X (tgt := 57) dX8_crossed_85 (by decide) ?_
    exact g_sub (lv' := [(0, .ref 72), (1, .int (iI v1)), (2, .int (iI v2)), (3, .long (lI v3)), (5, .int (iI (v5 + 1)))]) [1, 2, 3, 4, 0] rfl (h p l e s m args below meth c D cA ad X0 hr hlk)
theorem bX8_crossed_100 {v1 : Int} {v2 : Int} {v5 : Int} {v6 : Int} {σ : ASt} {Q : Int → ASt → Prop} (h32v5 : i32 v5) (h32v6 : i32 v6) (h : ((0 : Int) ≤ v1 ∧ v1 < 3) ∧ i32 ((gI σ 75 v1)) ∧ (((gI σ 75 v1) ≤ v6 → Q v5 σ) ∧ (v6 < (gI σ 75 v1) → ((0 : Int) ≤ v2 ∧ v2 < 3) ∧ i32 ((gI σ 75 v2)) ∧ (((gI σ 75 v2) ≤ v6 → Q v5 σ) ∧ (v6 < (gI σ 75 v2) → ((0 : Int) ≤ v6 ∧ v6 < 50) ∧ i32 ((gI σ 80 v6)) ∧ i32 ((gI σ 90 v6)) ∧ (((gI σ 80 v6) ≠ (gI σ 90 v6) → Wx K_X8_crossed (QI Q) 100 [(0, .ref 72), (1, .int (iI v1)), (2, .int (iI v2)), (5, .int (iI (v5 + 0))), (6, .int (iI (v6 + 1)))] [] σ) ∧ ((gI σ 80 v6) = (gI σ 90 v6) → Wx K_X8_crossed (QI Q) 100 [(0, .ref 72), (1, .int (iI v1)), (2, .int (iI v2)), (5, .int (iI (v5 + 1))), (6, .int (iI (v6 + 1)))] [] σ))))))) : Wx K_X8_crossed (QI Q) 100 [(0, .ref 72), (1, .int (iI v1)), (2, .int (iI v2)), (5, .int (iI v5)), (6, .int (iI v6))] [] σ := by
  intro p l e s m args below meth c D cA ad X0 hr hlk
  have X : Cx p s m args c (adA ad) D cA ad RX8 cX8_crossed 7 := X0
  refine g_iload X 4 dX8_crossed_100 rfl ?_
  refine g_aload_n X 0 dX8_crossed_102 rfl ?_
  refine g_getF X (f := 75) dX8_crossed_103 lf_X8_18 rfl rfl rfl ?_
  refine g_iload_n X 1 dX8_crossed_106 rfl ?_
  obtain ⟨q1, h⟩ := h
  refine g_iald X dX8_crossed_107 rfl q1.1 q1.2 ?_
  obtain ⟨q2, h⟩ := h
  refine g_icmp_ge X (tgt := 155) dX8_crossed_108 (by decide) h32v6 q2 (fun c3 => ?_) (fun c3 => ?_)
  · have h := h.1 c3
    refine g_iload X 3 dX8_crossed_155 rfl ?_
    exact g_iret X hr hlk dX8_crossed_157 rfl ⟨_, rfl, h32v5, h⟩
  · have h := h.2 c3
    refine g_iload X 4 dX8_crossed_111 rfl ?_
    refine g_aload_n X 0 dX8_crossed_113 rfl ?_
    refine g_getF X (f := 75) dX8_crossed_114 lf_X8_18 rfl rfl rfl ?_
    refine g_iload_n X 2 dX8_crossed_117 rfl ?_
    obtain ⟨q4, h⟩ := h
    refine g_iald X dX8_crossed_118 rfl q4.1 q4.2 ?_
    obtain ⟨q5, h⟩ := h
    refine g_icmp_ge X (tgt := 155) dX8_crossed_119 (by decide) h32v6 q5 (fun c6 => ?_) (fun c6 => ?_)
    · have h := h.1 c6
      refine g_iload X 3 dX8_crossed_155 rfl ?_
      exact g_iret X hr hlk dX8_crossed_157 rfl ⟨_, rfl, h32v5, h⟩
    · have h := h.2 c6
      refine g_iload X 3 dX8_crossed_122 rfl ?_
      refine g_aload_n X 0 dX8_crossed_124 rfl ?_
      refine g_getF X (f := 80) dX8_crossed_125 lf_X8_34 rfl rfl rfl ?_
      refine g_iload X 4 dX8_crossed_128 rfl ?_
      obtain ⟨q7, h⟩ := h
      refine g_iald X dX8_crossed_130 rfl q7.1 q7.2 ?_
      refine g_aload_n X 0 dX8_crossed_131 rfl ?_
      refine g_getF X (f := 90) dX8_crossed_132 lf_X8_64 rfl rfl rfl ?_
      refine g_iload X 4 dX8_crossed_135 rfl ?_
      refine g_iald X dX8_crossed_137 rfl q7.1 q7.2 ?_
      obtain ⟨q8, h⟩ := h
      obtain ⟨q9, h⟩ := h
      refine g_icmp_ne X (tgt := 145) dX8_crossed_138 (by decide) q8 q9 (fun c10 => ?_) (fun c10 => ?_)
      · have h := h.1 c10
        refine g_iconst X dX8_crossed_145 ?_
        refine g_iadd X dX8_crossed_146 ?_
        refine g_istore X (lv' := [(5, .int (iI (v5 + 0))), (0, .ref 72), (1, .int (iI v1)), (2, .int (iI v2)), (6, .int (iI v6))]) dX8_crossed_147 (by decide) rfl ?_
        refine g_iinc X (x := v6) (lv' := [(6, .int (iI (v6 + 1))), (5, .int (iI (v5 + 0))), (0, .ref 72), (1, .int (iI v1)), (2, .int (iI v2))]) 4 dX8_crossed_149 rfl (by decide) rfl ?_
        refine g_goto X (tgt := 100) dX8_crossed_152 (by decide) ?_
        exact g_sub (lv' := [(0, .ref 72), (1, .int (iI v1)), (2, .int (iI v2)), (5, .int (iI (v5 + 0))), (6, .int (iI (v6 + 1)))]) [2, 3, 4, 1, 0] rfl (h p l e s m args below meth c D cA ad X0 hr hlk)
      · have h := h.2 c10
        refine g_iconst X dX8_crossed_141 ?_
        refine g_goto X (tgt := 146) dX8_crossed_142 (by decide) ?_
        refine g_iadd X dX8_crossed_146 ?_
        refine g_istore X (lv' := [(5, .int (iI (v5 + 1))), (0, .ref 72), (1, .int (iI v1)), (2, .int (iI v2)), (6, .int (iI v6))]) dX8_crossed_147 (by decide) rfl ?_
        refine g_iinc X (x := v6) (lv' := [(6, .int (iI (v6 + 1))), (5, .int (iI (v5 + 1))), (0, .ref 72), (1, .int (iI v1)), (2, .int (iI v2))]) 4 dX8_crossed_149 rfl (by decide) rfl ?_
        refine g_goto X (tgt := 100) dX8_crossed_152 (by decide) ?_
        exact g_sub (lv' := [(0, .ref 72), (1, .int (iI v1)), (2, .int (iI v2)), (5, .int (iI (v5 + 1))), (6, .int (iI (v6 + 1)))]) [2, 3, 4, 1, 0] rfl (h p l e s m args below meth c D cA ad X0 hr hlk)
theorem bX8_digit_0 {v1 : Int} {v2 : Int} {v3 : Int} {σ : ASt} {Q : Int → ASt → Prop} (h32v3 : i32 v3) (h : EvZ K_X8_isReel [.int (iI v1)] σ (fun s1 => EvZ K_X8_in [.long (lI v3), .long (lI 0), .long (lI 99)] s1 (fun s2 => EvI K_X8_refusal_ [.ref 72, .int (iI v1), .int (iI v2), .int (iI 1)] s2 (fun x4 s3 => ((x4 = 0 → EvV K_X8_does [.ref 72, .int (iI v1)] s3 (fun s7 => EvI K_X8_digitAt [.ref 72, .int (iI v1), .int (iI v2)] s7 (fun x9 s8 => ((0 : Int) ≤ ((50 * v1) + v2) ∧ ((50 * v1) + v2) < 300) ∧ Q x9 (sI s8 79 ((50 * v1) + v2) v3)))) ∧ (x4 ≠ 0 → Q x4 s3)))) (fun s2 => Q (-2) s2)) (fun s1 => Q (-2) s1)) : Wx K_X8_digit (QI Q) 0 [(0, .ref 72), (1, .int (iI v1)), (2, .int (iI v2)), (3, .int (iI v3))] [] σ := by
  intro p l e s m args below meth c D cA ad X0 hr hlk
  have X : Cx p s m args c (adA ad) D cA ad RX8 cX8_digit 6 := X0
  refine g_iload_n X 1 dX8_digit_0 rfl ?_
  refine g_cSZ X (K := K_X8_isReel) [.int (iI v1)] [] dX8_digit_1 ls_X8_149 rm_X8_digit_X8_isReel ⟨by decide, by decide⟩ adA_id rfl (Nat.le_of_ble_eq_true rfl) rfl h (fun s1 h => ?_) (fun s1 h => ?_)
  · skip
    refine g_if_eq X (tgt := 19) dX8_digit_4 (by decide) (by omega) (fun hc => absurd hc (by decide)) (fun _ => ?_)
    refine g_iload_n X 3 dX8_digit_7 rfl ?_
    refine g_i2l X dX8_digit_8 h32v3 ?_
    refine g_lconst X (z := 0) dX8_digit_9 (by decide +kernel) ?_
    refine g_ldc2 X (z := 99) dX8_digit_10 lc_X8_186 (by decide +kernel) ?_
    refine g_cSZ X (K := K_X8_in) [.long (lI v3), .long (lI 0), .long (lI 99)] [] dX8_digit_13 ls_X8_104 rm_X8_digit_X8_in ⟨by decide, by decide⟩ adA_id rfl (Nat.le_of_ble_eq_true rfl) rfl h (fun s2 h => ?_) (fun s2 h => ?_)
    · skip
      refine g_if_ne X (tgt := 22) dX8_digit_16 (by decide) (by omega) (fun _ => ?_) (fun hc => absurd hc (by decide))
      refine g_aload_n X 0 dX8_digit_22 rfl ?_
      refine g_iload_n X 1 dX8_digit_23 rfl ?_
      refine g_iload_n X 2 dX8_digit_24 rfl ?_
      refine g_iconst X dX8_digit_25 ?_
      refine g_cVI X (K := K_X8_refusal_) [.int (iI v1), .int (iI v2), .int (iI 1)] [] dX8_digit_26 lv_X8_171 rm_X8_digit_X8_refusal_ ⟨by decide, by decide⟩ adA_id rfl rfl rfl (Nat.le_of_ble_eq_true rfl) rfl h (fun x4 s3 q5 h => ?_)
      refine g_istore X (lv' := [(4, .int (iI x4)), (0, .ref 72), (1, .int (iI v1)), (2, .int (iI v2)), (3, .int (iI v3))]) dX8_digit_29 (by decide) rfl ?_
      refine g_iload X 0 dX8_digit_31 rfl ?_
      refine g_if_eq X (tgt := 39) dX8_digit_33 (by decide) q5 (fun c6 => ?_) (fun c6 => ?_)
      · have h := h.1 c6
        refine g_aload_n X 1 dX8_digit_39 rfl ?_
        refine g_iload_n X 2 dX8_digit_40 rfl ?_
        refine g_cVV X (K := K_X8_does) [.int (iI v1)] [] dX8_digit_41 lv_X8_188 rm_X8_digit_X8_does ⟨by decide, by decide⟩ adA_id rfl rfl rfl (Nat.le_of_ble_eq_true rfl) rfl h (fun s7 h => ?_)
        refine g_aload_n X 1 dX8_digit_44 rfl ?_
        refine g_iload_n X 2 dX8_digit_45 rfl ?_
        refine g_iload_n X 3 dX8_digit_46 rfl ?_
        refine g_cVI X (K := K_X8_digitAt) [.int (iI v1), .int (iI v2)] [] dX8_digit_47 lv_X8_140 rm_X8_digit_X8_digitAt ⟨by decide, by decide⟩ adA_id rfl rfl rfl (Nat.le_of_ble_eq_true rfl) rfl h (fun x9 s8 q10 h => ?_)
        refine g_istore X (lv' := [(5, .int (iI x9)), (4, .int (iI x4)), (0, .ref 72), (1, .int (iI v1)), (2, .int (iI v2)), (3, .int (iI v3))]) dX8_digit_50 (by decide) rfl ?_
        refine g_aload_n X 2 dX8_digit_52 rfl ?_
        refine g_getF X (f := 79) dX8_digit_53 lf_X8_31 rfl rfl rfl ?_
        refine g_bipush X dX8_digit_56 (by decide +kernel) ?_
        refine g_iload_n X 3 dX8_digit_58 rfl ?_
        refine g_imul X dX8_digit_59 ?_
        refine g_iload_n X 4 dX8_digit_60 rfl ?_
        refine g_iadd X dX8_digit_61 ?_
        refine g_iload_n X 5 dX8_digit_62 rfl ?_
        obtain ⟨q11, h⟩ := h
        refine g_iast X dX8_digit_63 rfl q11.1 q11.2 ?_
        refine g_iload X 0 dX8_digit_64 rfl ?_
        exact g_iret X hr hlk dX8_digit_66 rfl ⟨_, rfl, q10, h⟩
      · have h := h.2 c6
        refine g_iload X 0 dX8_digit_36 rfl ?_
        exact g_iret X hr hlk dX8_digit_38 rfl ⟨_, rfl, q5, h⟩
    · skip
      refine g_if_ne X (tgt := 22) dX8_digit_16 (by decide) (by omega) (fun hc => absurd hc (by decide)) (fun _ => ?_)
      refine g_bipush X dX8_digit_19 (by decide +kernel) ?_
      exact g_iret X hr hlk dX8_digit_21 rfl ⟨_, rfl, (by omega), h⟩
  · skip
    refine g_if_eq X (tgt := 19) dX8_digit_4 (by decide) (by omega) (fun _ => ?_) (fun hc => absurd hc (by decide))
    refine g_bipush X dX8_digit_19 (by decide +kernel) ?_
    exact g_iret X hr hlk dX8_digit_21 rfl ⟨_, rfl, (by omega), h⟩
theorem eX8_digit {v1 : Int} {v2 : Int} {v3 : Int} {σ : ASt} {Q : Int → ASt → Prop} (h32v3 : i32 v3) (h : EvZ K_X8_isReel [.int (iI v1)] σ (fun s1 => EvZ K_X8_in [.long (lI v3), .long (lI 0), .long (lI 99)] s1 (fun s2 => EvI K_X8_refusal_ [.ref 72, .int (iI v1), .int (iI v2), .int (iI 1)] s2 (fun x4 s3 => ((x4 = 0 → EvV K_X8_does [.ref 72, .int (iI v1)] s3 (fun s7 => EvI K_X8_digitAt [.ref 72, .int (iI v1), .int (iI v2)] s7 (fun x9 s8 => ((0 : Int) ≤ ((50 * v1) + v2) ∧ ((50 * v1) + v2) < 300) ∧ Q x9 (sI s8 79 ((50 * v1) + v2) v3)))) ∧ (x4 ≠ 0 → Q x4 s3)))) (fun s2 => Q (-2) s2)) (fun s1 => Q (-2) s1)) : EvI K_X8_digit [.ref 72, .int (iI v1), .int (iI v2), .int (iI v3)] σ Q := Ev.of rfl (Nat.le_of_ble_eq_true rfl) rfl (bX8_digit_0 h32v3 h)
theorem bX8_empty_0 {v1 : Int} {σ : ASt} {Q : Int → ASt → Prop}  (h : EvZ K_X8_isReel [.int (iI v1)] σ (fun s1 => EvZ K_X8_isEmpty [.ref 72, .int (iI v1)] s1 (fun s2 => Q (-11) s2) (fun s2 => ((0 : Int) ≤ v1 ∧ v1 < 6) ∧ EvV K_X8_forgets [.ref 72, .int (iI v1)] (sI s2 78 v1 (-1)) (fun s4 => Q 1 s4))) (fun s1 => Q (-2) s1)) : Wx K_X8_empty (QI Q) 0 [(0, .ref 72), (1, .int (iI v1))] [] σ := by
  intro p l e s m args below meth c D cA ad X0 hr hlk
  have X : Cx p s m args c (adA ad) D cA ad RX8 cX8_empty 2 := X0
  refine g_iload_n X 1 dX8_empty_0 rfl ?_
  refine g_cSZ X (K := K_X8_isReel) [.int (iI v1)] [] dX8_empty_1 ls_X8_149 rm_X8_empty_X8_isReel ⟨by decide, by decide⟩ adA_id rfl (Nat.le_of_ble_eq_true rfl) rfl h (fun s1 h => ?_) (fun s1 h => ?_)
  · skip
    refine g_if_ne X (tgt := 10) dX8_empty_4 (by decide) (by omega) (fun _ => ?_) (fun hc => absurd hc (by decide))
    refine g_aload_n X 0 dX8_empty_10 rfl ?_
    refine g_iload_n X 1 dX8_empty_11 rfl ?_
    refine g_cVZ X (K := K_X8_isEmpty) [.int (iI v1)] [] dX8_empty_12 lv_X8_159 rm_X8_empty_X8_isEmpty ⟨by decide, by decide⟩ adA_id rfl rfl rfl (Nat.le_of_ble_eq_true rfl) rfl h (fun s2 h => ?_) (fun s2 h => ?_)
    · skip
      refine g_if_eq X (tgt := 21) dX8_empty_15 (by decide) (by omega) (fun hc => absurd hc (by decide)) (fun _ => ?_)
      refine g_bipush X dX8_empty_18 (by decide +kernel) ?_
      exact g_iret X hr hlk dX8_empty_20 rfl ⟨_, rfl, (by omega), h⟩
    · skip
      refine g_if_eq X (tgt := 21) dX8_empty_15 (by decide) (by omega) (fun _ => ?_) (fun hc => absurd hc (by decide))
      refine g_aload_n X 0 dX8_empty_21 rfl ?_
      refine g_getF X (f := 78) dX8_empty_22 lf_X8_28 rfl rfl rfl ?_
      refine g_iload_n X 1 dX8_empty_25 rfl ?_
      refine g_iconst X dX8_empty_26 ?_
      obtain ⟨q3, h⟩ := h
      refine g_iast X dX8_empty_27 rfl q3.1 q3.2 ?_
      refine g_aload_n X 0 dX8_empty_28 rfl ?_
      refine g_iload_n X 1 dX8_empty_29 rfl ?_
      refine g_cVV X (K := K_X8_forgets) [.int (iI v1)] [] dX8_empty_30 lv_X8_120 rm_X8_empty_X8_forgets ⟨by decide, by decide⟩ adA_id rfl rfl rfl (Nat.le_of_ble_eq_true rfl) rfl h (fun s4 h => ?_)
      refine g_iconst X dX8_empty_33 ?_
      exact g_iret X hr hlk dX8_empty_34 rfl ⟨_, rfl, (by omega), h⟩
  · skip
    refine g_if_ne X (tgt := 10) dX8_empty_4 (by decide) (by omega) (fun hc => absurd hc (by decide)) (fun _ => ?_)
    refine g_bipush X dX8_empty_7 (by decide +kernel) ?_
    exact g_iret X hr hlk dX8_empty_9 rfl ⟨_, rfl, (by omega), h⟩
theorem eX8_empty {v1 : Int} {σ : ASt} {Q : Int → ASt → Prop}  (h : EvZ K_X8_isReel [.int (iI v1)] σ (fun s1 => EvZ K_X8_isEmpty [.ref 72, .int (iI v1)] s1 (fun s2 => Q (-11) s2) (fun s2 => ((0 : Int) ≤ v1 ∧ v1 < 6) ∧ EvV K_X8_forgets [.ref 72, .int (iI v1)] (sI s2 78 v1 (-1)) (fun s4 => Q 1 s4))) (fun s1 => Q (-2) s1)) : EvI K_X8_empty [.ref 72, .int (iI v1)] σ Q := Ev.of rfl (Nat.le_of_ble_eq_true rfl) rfl (bX8_empty_0  h)
theorem bX8_feed_0 {v1 : Int} {σ : ASt} {Q : Int → ASt → Prop} (h32v1 : i32 v1) (h : EvZ K_X8_in [.long (lI v1), .long (lI 0), .long (lI 127)] σ (fun s1 => i32 ((gI s1 72 23)) ∧ (((gI s1 72 23) ≠ 80 → ((0 : Int) ≤ (gI s1 72 23) ∧ (gI s1 72 23) < 80) ∧ i32 ((gI (sI (sI s1 92 (gI s1 72 23) v1) 72 23 ((gI (sI s1 92 (gI s1 72 23) v1) 72 23) + 1)) 72 23)) ∧ Q (gI (sI (sI s1 92 (gI s1 72 23) v1) 72 23 ((gI (sI s1 92 (gI s1 72 23) v1) 72 23) + 1)) 72 23) (sI (sI s1 92 (gI s1 72 23) v1) 72 23 ((gI (sI s1 92 (gI s1 72 23) v1) 72 23) + 1))) ∧ ((gI s1 72 23) = 80 → Q (-4) s1))) (fun s1 => Q (-2) s1)) : Wx K_X8_feed (QI Q) 0 [(0, .ref 72), (1, .int (iI v1))] [] σ := by
  intro p l e s m args below meth c D cA ad X0 hr hlk
  have X : Cx p s m args c (adA ad) D cA ad RX8 cX8_feed 2 := X0
  refine g_iload_n X 1 dX8_feed_0 rfl ?_
  refine g_i2l X dX8_feed_1 h32v1 ?_
  refine g_lconst X (z := 0) dX8_feed_2 (by decide +kernel) ?_
  refine g_ldc2 X (z := 127) dX8_feed_3 lc_X8_232 (by decide +kernel) ?_
  refine g_cSZ X (K := K_X8_in) [.long (lI v1), .long (lI 0), .long (lI 127)] [] dX8_feed_6 ls_X8_104 rm_X8_feed_X8_in ⟨by decide, by decide⟩ adA_id rfl (Nat.le_of_ble_eq_true rfl) rfl h (fun s1 h => ?_) (fun s1 h => ?_)
  · skip
    refine g_if_ne X (tgt := 15) dX8_feed_9 (by decide) (by omega) (fun _ => ?_) (fun hc => absurd hc (by decide))
    refine g_aload_n X 0 dX8_feed_15 rfl ?_
    refine g_getI X (z := 23) dX8_feed_16 lf_X8_234 rfl rfl rfl ?_
    refine g_bipush X dX8_feed_19 (by decide +kernel) ?_
    obtain ⟨q2, h⟩ := h
    refine g_icmp_ne X (tgt := 27) dX8_feed_21 (by decide) q2 (by omega) (fun c3 => ?_) (fun c3 => ?_)
    · have h := h.1 c3
      refine g_aload_n X 0 dX8_feed_27 rfl ?_
      refine g_getF X (f := 92) dX8_feed_28 lf_X8_70 rfl rfl rfl ?_
      refine g_aload_n X 0 dX8_feed_31 rfl ?_
      refine g_getI X (z := 23) dX8_feed_32 lf_X8_234 rfl rfl rfl ?_
      refine g_iload_n X 1 dX8_feed_35 rfl ?_
      obtain ⟨q4, h⟩ := h
      refine g_iast X dX8_feed_36 rfl q4.1 q4.2 ?_
      refine g_aload_n X 0 dX8_feed_37 rfl ?_
      refine g_dup X dX8_feed_38 rfl ?_
      refine g_getI X (z := 23) dX8_feed_39 lf_X8_234 rfl rfl rfl ?_
      refine g_iconst X dX8_feed_42 ?_
      refine g_iadd X dX8_feed_43 ?_
      refine g_putI X (j := 23) (z := 23) dX8_feed_44 lp_X8_234 rfl rfl rfl ?_
      refine g_aload_n X 0 dX8_feed_47 rfl ?_
      refine g_getI X (z := 23) dX8_feed_48 lf_X8_234 rfl rfl rfl ?_
      obtain ⟨q5, h⟩ := h
      exact g_iret X hr hlk dX8_feed_51 rfl ⟨_, rfl, q5, h⟩
    · have h := h.2 c3
      refine g_bipush X dX8_feed_24 (by decide +kernel) ?_
      exact g_iret X hr hlk dX8_feed_26 rfl ⟨_, rfl, (by omega), h⟩
  · skip
    refine g_if_ne X (tgt := 15) dX8_feed_9 (by decide) (by omega) (fun hc => absurd hc (by decide)) (fun _ => ?_)
    refine g_bipush X dX8_feed_12 (by decide +kernel) ?_
    exact g_iret X hr hlk dX8_feed_14 rfl ⟨_, rfl, (by omega), h⟩
theorem eX8_feed {v1 : Int} {σ : ASt} {Q : Int → ASt → Prop} (h32v1 : i32 v1) (h : EvZ K_X8_in [.long (lI v1), .long (lI 0), .long (lI 127)] σ (fun s1 => i32 ((gI s1 72 23)) ∧ (((gI s1 72 23) ≠ 80 → ((0 : Int) ≤ (gI s1 72 23) ∧ (gI s1 72 23) < 80) ∧ i32 ((gI (sI (sI s1 92 (gI s1 72 23) v1) 72 23 ((gI (sI s1 92 (gI s1 72 23) v1) 72 23) + 1)) 72 23)) ∧ Q (gI (sI (sI s1 92 (gI s1 72 23) v1) 72 23 ((gI (sI s1 92 (gI s1 72 23) v1) 72 23) + 1)) 72 23) (sI (sI s1 92 (gI s1 72 23) v1) 72 23 ((gI (sI s1 92 (gI s1 72 23) v1) 72 23) + 1))) ∧ ((gI s1 72 23) = 80 → Q (-4) s1))) (fun s1 => Q (-2) s1)) : EvI K_X8_feed [.ref 72, .int (iI v1)] σ Q := Ev.of rfl (Nat.le_of_ble_eq_true rfl) rfl (bX8_feed_0 h32v1 h)
theorem bX8_filled_0 {v1 : Int} {σ : ASt} {Q : Int → ASt → Prop}  (h : Wx K_X8_filled (QI Q) 4 [(0, .ref 72), (1, .int (iI v1)), (2, .int (iI 0)), (3, .int (iI 0))] [] σ) : Wx K_X8_filled (QI Q) 0 [(0, .ref 72), (1, .int (iI v1))] [] σ := by
  intro p l e s m args below meth c D cA ad X0 hr hlk
  have X : Cx p s m args c (adA ad) D cA ad RX8 cX8_filled 4 := X0
  refine g_iconst X dX8_filled_0 ?_
  refine g_istore_n X (lv' := [(2, .int (iI 0)), (0, .ref 72), (1, .int (iI v1))]) dX8_filled_1 (by decide) rfl ?_
  refine g_iconst X dX8_filled_2 ?_
  refine g_istore_n X (lv' := [(3, .int (iI 0)), (2, .int (iI 0)), (0, .ref 72), (1, .int (iI v1))]) dX8_filled_3 (by decide) rfl ?_
  exact g_sub (lv' := [(0, .ref 72), (1, .int (iI v1)), (2, .int (iI 0)), (3, .int (iI 0))]) [2, 3, 1, 0] rfl (h p l e s m args below meth c D cA ad X0 hr hlk)
theorem eX8_filled {v1 : Int} {σ : ASt} {Q : Int → ASt → Prop}  (h : Wx K_X8_filled (QI Q) 4 [(0, .ref 72), (1, .int (iI v1)), (2, .int (iI 0)), (3, .int (iI 0))] [] σ) : EvI K_X8_filled [.ref 72, .int (iI v1)] σ Q := Ev.of rfl (Nat.le_of_ble_eq_true rfl) rfl (bX8_filled_0  h)
theorem bX8_filled_4 {v1 : Int} {v2 : Int} {v3 : Int} {σ : ASt} {Q : Int → ASt → Prop} (h32v2 : i32 v2) (h32v3 : i32 v3) (h : EvI K_X8_high [.ref 72, .int (iI v1)] σ (fun x2 s1 => ((x2 ≤ v3 → Q v2 s1) ∧ (v3 < x2 → EvI K_X8_digitAt [.ref 72, .int (iI v1), .int (iI v3)] s1 (fun x6 s5 => ((x6 ≠ 0 → Wx K_X8_filled (QI Q) 4 [(0, .ref 72), (1, .int (iI v1)), (2, .int (iI (v2 + 1))), (3, .int (iI (v3 + 1)))] [] s5) ∧ (x6 = 0 → Wx K_X8_filled (QI Q) 4 [(0, .ref 72), (1, .int (iI v1)), (2, .int (iI (v2 + 0))), (3, .int (iI (v3 + 1)))] [] s5))))))) : Wx K_X8_filled (QI Q) 4 [(0, .ref 72), (1, .int (iI v1)), (2, .int (iI v2)), (3, .int (iI v3))] [] σ := by
  intro p l e s m args below meth c D cA ad X0 hr hlk
  have X : Cx p s m args c (adA ad) D cA ad RX8 cX8_filled 4 := X0
  refine g_iload_n X 3 dX8_filled_4 rfl ?_
  refine g_aload_n X 0 dX8_filled_5 rfl ?_
  refine g_iload_n X 1 dX8_filled_6 rfl ?_
  refine g_cVI X (K := K_X8_high) [.int (iI v1)] [.int (iI v3)] dX8_filled_7 lv_X8_137 rm_X8_filled_X8_high ⟨by decide, by decide⟩ adA_id rfl rfl rfl (Nat.le_of_ble_eq_true rfl) rfl h (fun x2 s1 q3 h => ?_)
  refine g_icmp_ge X (tgt := 36) dX8_filled_10 (by decide) h32v3 q3 (fun c4 => ?_) (fun c4 => ?_)
  · have h := h.1 c4
    refine g_iload_n X 2 dX8_filled_36 rfl ?_
    exact g_iret X hr hlk dX8_filled_37 rfl ⟨_, rfl, h32v2, h⟩
  · have h := h.2 c4
    refine g_iload_n X 2 dX8_filled_13 rfl ?_
    refine g_aload_n X 0 dX8_filled_14 rfl ?_
    refine g_iload_n X 1 dX8_filled_15 rfl ?_
    refine g_iload_n X 3 dX8_filled_16 rfl ?_
    refine g_cVI X (K := K_X8_digitAt) [.int (iI v1), .int (iI v3)] [.int (iI v2)] dX8_filled_17 lv_X8_140 rm_X8_filled_X8_digitAt ⟨by decide, by decide⟩ adA_id rfl rfl rfl (Nat.le_of_ble_eq_true rfl) rfl h (fun x6 s5 q7 h => ?_)
    refine g_if_ne X (tgt := 27) dX8_filled_20 (by decide) q7 (fun c8 => ?_) (fun c8 => ?_)
    · have h := h.1 c8
      refine g_iconst X dX8_filled_27 ?_
      refine g_iadd X dX8_filled_28 ?_
      refine g_istore_n X (lv' := [(2, .int (iI (v2 + 1))), (0, .ref 72), (1, .int (iI v1)), (3, .int (iI v3))]) dX8_filled_29 (by decide) rfl ?_
      refine g_iinc X (x := v3) (lv' := [(3, .int (iI (v3 + 1))), (2, .int (iI (v2 + 1))), (0, .ref 72), (1, .int (iI v1))]) 3 dX8_filled_30 rfl (by decide) rfl ?_
      refine g_goto X (tgt := 4) dX8_filled_33 (by decide) ?_
      exact g_sub (lv' := [(0, .ref 72), (1, .int (iI v1)), (2, .int (iI (v2 + 1))), (3, .int (iI (v3 + 1)))]) [2, 3, 1, 0] rfl (h p l e s m args below meth c D cA ad X0 hr hlk)
    · have h := h.2 c8
      refine g_iconst X dX8_filled_23 ?_
      refine g_goto X (tgt := 28) dX8_filled_24 (by decide) ?_
      refine g_iadd X dX8_filled_28 ?_
      refine g_istore_n X (lv' := [(2, .int (iI (v2 + 0))), (0, .ref 72), (1, .int (iI v1)), (3, .int (iI v3))]) dX8_filled_29 (by decide) rfl ?_
      refine g_iinc X (x := v3) (lv' := [(3, .int (iI (v3 + 1))), (2, .int (iI (v2 + 0))), (0, .ref 72), (1, .int (iI v1))]) 3 dX8_filled_30 rfl (by decide) rfl ?_
      refine g_goto X (tgt := 4) dX8_filled_33 (by decide) ?_
      exact g_sub (lv' := [(0, .ref 72), (1, .int (iI v1)), (2, .int (iI (v2 + 0))), (3, .int (iI (v3 + 1)))]) [2, 3, 1, 0] rfl (h p l e s m args below meth c D cA ad X0 hr hlk)
theorem bX8_row_0 {v1 : Int} {v2 : Int} {σ : ASt} {Q : Int → ASt → Prop} (h32v2 : i32 v2) (h : EvZ K_X8_isRow [.int (iI v1)] σ (fun s1 => ((v2 ≤ 60 → (((-1) ≤ v2 → ((v2 < 0 → ((0 : Int) ≤ v1 ∧ v1 < 3) ∧ ((0 ≤ v2 → Wx K_X8_row (QI Q) 56 [(0, .ref 72), (1, .int (iI v1)), (3, .int (iI 0))] [] (sI (sI s1 93 v1 0) 94 v1 v2)) ∧ (v2 < 0 → Wx K_X8_row (QI Q) 56 [(0, .ref 72), (1, .int (iI v1)), (3, .int (iI 0))] [] (sI (sI s1 93 v1 0) 94 v1 0)))) ∧ (0 ≤ v2 → ((0 : Int) ≤ v1 ∧ v1 < 3) ∧ ((0 ≤ v2 → Wx K_X8_row (QI Q) 56 [(0, .ref 72), (1, .int (iI v1)), (3, .int (iI 0))] [] (sI (sI s1 93 v1 1) 94 v1 v2)) ∧ (v2 < 0 → Wx K_X8_row (QI Q) 56 [(0, .ref 72), (1, .int (iI v1)), (3, .int (iI 0))] [] (sI (sI s1 93 v1 1) 94 v1 0)))))) ∧ (v2 < (-1) → Q (-14) s1))) ∧ (60 < v2 → Q (-2) s1))) (fun s1 => Q (-2) s1)) : Wx K_X8_row (QI Q) 0 [(0, .ref 72), (1, .int (iI v1)), (2, .int (iI v2))] [] σ := by
  intro p l e s m args below meth c D cA ad X0 hr hlk
  have X : Cx p s m args c (adA ad) D cA ad RX8 cX8_row 4 := X0
  refine g_iload_n X 1 dX8_row_0 rfl ?_
  refine g_cSZ X (K := K_X8_isRow) [.int (iI v1)] [] dX8_row_1 ls_X8_251 rm_X8_row_X8_isRow ⟨by decide, by decide⟩ adA_id rfl (Nat.le_of_ble_eq_true rfl) rfl h (fun s1 h => ?_) (fun s1 h => ?_)
  · skip
    refine g_if_eq X (tgt := 13) dX8_row_4 (by decide) (by omega) (fun hc => absurd hc (by decide)) (fun _ => ?_)
    refine g_iload_n X 2 dX8_row_7 rfl ?_
    refine g_bipush X dX8_row_8 (by decide +kernel) ?_
    refine g_icmp_le X (tgt := 16) dX8_row_10 (by decide) h32v2 (by omega) (fun c2 => ?_) (fun c2 => ?_)
    · have h := h.1 c2
      refine g_iload_n X 2 dX8_row_16 rfl ?_
      refine g_iconst X dX8_row_17 ?_
      refine g_icmp_ge X (tgt := 24) dX8_row_18 (by decide) h32v2 (by omega) (fun c3 => ?_) (fun c3 => ?_)
      · have h := h.1 c3
        refine g_aload_n X 0 dX8_row_24 rfl ?_
        refine g_getF X (f := 93) dX8_row_25 lf_X8_73 rfl rfl rfl ?_
        refine g_iload_n X 1 dX8_row_28 rfl ?_
        refine g_iload_n X 2 dX8_row_29 rfl ?_
        refine g_if_lt X (tgt := 37) dX8_row_30 (by decide) h32v2 (fun c4 => ?_) (fun c4 => ?_)
        · have h := h.1 c4
          refine g_iconst X dX8_row_37 ?_
          obtain ⟨q5, h⟩ := h
          refine g_zast X dX8_row_38 rfl q5.1 q5.2 (by decide +kernel) ?_
          refine g_aload_n X 0 dX8_row_39 rfl ?_
          refine g_getF X (f := 94) dX8_row_40 lf_X8_77 rfl rfl rfl ?_
          refine g_iload_n X 1 dX8_row_43 rfl ?_
          refine g_iload_n X 2 dX8_row_44 rfl ?_
          refine g_if_ge X (tgt := 52) dX8_row_45 (by decide) h32v2 (fun c6 => ?_) (fun c6 => ?_)
          · have h := h.1 c6
            refine g_iload_n X 2 dX8_row_52 rfl ?_
            refine g_iast X dX8_row_53 rfl q5.1 q5.2 ?_
            refine g_iconst X dX8_row_54 ?_
            refine g_istore_n X (lv' := [(3, .int (iI 0)), (0, .ref 72), (1, .int (iI v1)), (2, .int (iI v2))]) dX8_row_55 (by decide) rfl ?_
            exact g_sub (lv' := [(0, .ref 72), (1, .int (iI v1)), (3, .int (iI 0))]) [1, 2, 0] rfl (h p l e s m args below meth c D cA ad X0 hr hlk)
          · have h := h.2 c6
            refine g_iconst X dX8_row_48 ?_
            refine g_goto X (tgt := 53) dX8_row_49 (by decide) ?_
            refine g_iast X dX8_row_53 rfl q5.1 q5.2 ?_
            refine g_iconst X dX8_row_54 ?_
            refine g_istore_n X (lv' := [(3, .int (iI 0)), (0, .ref 72), (1, .int (iI v1)), (2, .int (iI v2))]) dX8_row_55 (by decide) rfl ?_
            exact g_sub (lv' := [(0, .ref 72), (1, .int (iI v1)), (3, .int (iI 0))]) [1, 2, 0] rfl (h p l e s m args below meth c D cA ad X0 hr hlk)
        · have h := h.2 c4
          refine g_iconst X dX8_row_33 ?_
          refine g_goto X (tgt := 38) dX8_row_34 (by decide) ?_
          obtain ⟨q7, h⟩ := h
          refine g_zast X dX8_row_38 rfl q7.1 q7.2 (by decide +kernel) ?_
          refine g_aload_n X 0 dX8_row_39 rfl ?_
          refine g_getF X (f := 94) dX8_row_40 lf_X8_77 rfl rfl rfl ?_
          refine g_iload_n X 1 dX8_row_43 rfl ?_
          refine g_iload_n X 2 dX8_row_44 rfl ?_
          refine g_if_ge X (tgt := 52) dX8_row_45 (by decide) h32v2 (fun c8 => ?_) (fun c8 => ?_)
          · have h := h.1 c8
            refine g_iload_n X 2 dX8_row_52 rfl ?_
            refine g_iast X dX8_row_53 rfl q7.1 q7.2 ?_
            refine g_iconst X dX8_row_54 ?_
            refine g_istore_n X (lv' := [(3, .int (iI 0)), (0, .ref 72), (1, .int (iI v1)), (2, .int (iI v2))]) dX8_row_55 (by decide) rfl ?_
            exact g_sub (lv' := [(0, .ref 72), (1, .int (iI v1)), (3, .int (iI 0))]) [1, 2, 0] rfl (h p l e s m args below meth c D cA ad X0 hr hlk)
          · have h := h.2 c8
            refine g_iconst X dX8_row_48 ?_
            refine g_goto X (tgt := 53) dX8_row_49 (by decide) ?_
            refine g_iast X dX8_row_53 rfl q7.1 q7.2 ?_
            refine g_iconst X dX8_row_54 ?_
            refine g_istore_n X (lv' := [(3, .int (iI 0)), (0, .ref 72), (1, .int (iI v1)), (2, .int (iI v2))]) dX8_row_55 (by decide) rfl ?_
            exact g_sub (lv' := [(0, .ref 72), (1, .int (iI v1)), (3, .int (iI 0))]) [1, 2, 0] rfl (h p l e s m args below meth c D cA ad X0 hr hlk)
      · have h := h.2 c3
        refine g_bipush X dX8_row_21 (by decide +kernel) ?_
        exact g_iret X hr hlk dX8_row_23 rfl ⟨_, rfl, (by omega), h⟩
    · have h := h.2 c2
      refine g_bipush X dX8_row_13 (by decide +kernel) ?_
      exact g_iret X hr hlk dX8_row_15 rfl ⟨_, rfl, (by omega), h⟩
  · skip
    refine g_if_eq X (tgt := 13) dX8_row_4 (by decide) (by omega) (fun _ => ?_) (fun hc => absurd hc (by decide))
    refine g_bipush X dX8_row_13 (by decide +kernel) ?_
    exact g_iret X hr hlk dX8_row_15 rfl ⟨_, rfl, (by omega), h⟩
theorem eX8_row {v1 : Int} {v2 : Int} {σ : ASt} {Q : Int → ASt → Prop} (h32v2 : i32 v2) (h : EvZ K_X8_isRow [.int (iI v1)] σ (fun s1 => ((v2 ≤ 60 → (((-1) ≤ v2 → ((v2 < 0 → ((0 : Int) ≤ v1 ∧ v1 < 3) ∧ ((0 ≤ v2 → Wx K_X8_row (QI Q) 56 [(0, .ref 72), (1, .int (iI v1)), (3, .int (iI 0))] [] (sI (sI s1 93 v1 0) 94 v1 v2)) ∧ (v2 < 0 → Wx K_X8_row (QI Q) 56 [(0, .ref 72), (1, .int (iI v1)), (3, .int (iI 0))] [] (sI (sI s1 93 v1 0) 94 v1 0)))) ∧ (0 ≤ v2 → ((0 : Int) ≤ v1 ∧ v1 < 3) ∧ ((0 ≤ v2 → Wx K_X8_row (QI Q) 56 [(0, .ref 72), (1, .int (iI v1)), (3, .int (iI 0))] [] (sI (sI s1 93 v1 1) 94 v1 v2)) ∧ (v2 < 0 → Wx K_X8_row (QI Q) 56 [(0, .ref 72), (1, .int (iI v1)), (3, .int (iI 0))] [] (sI (sI s1 93 v1 1) 94 v1 0)))))) ∧ (v2 < (-1) → Q (-14) s1))) ∧ (60 < v2 → Q (-2) s1))) (fun s1 => Q (-2) s1)) : EvI K_X8_row [.ref 72, .int (iI v1), .int (iI v2)] σ Q := Ev.of rfl (Nat.le_of_ble_eq_true rfl) rfl (bX8_row_0 h32v2 h)
theorem bX8_row_56 {v1 : Int} {v3 : Int} {σ : ASt} {Q : Int → ASt → Prop} (h32v3 : i32 v3) (h : ((60 ≤ v3 → Q 1 σ) ∧ (v3 < 60 → ((0 : Int) ≤ ((60 * v1) + v3) ∧ ((60 * v1) + v3) < 180) ∧ Wx K_X8_row (QI Q) 56 [(0, .ref 72), (1, .int (iI v1)), (3, .int (iI (v3 + 1)))] [] (sL σ 95 ((60 * v1) + v3) 0)))) : Wx K_X8_row (QI Q) 56 [(0, .ref 72), (1, .int (iI v1)), (3, .int (iI v3))] [] σ := by
  intro p l e s m args below meth c D cA ad X0 hr hlk
  have X : Cx p s m args c (adA ad) D cA ad RX8 cX8_row 4 := X0
  refine g_iload_n X 2 dX8_row_56 rfl ?_
  refine g_bipush X dX8_row_57 (by decide +kernel) ?_
  refine g_icmp_ge X (tgt := 80) dX8_row_59 (by decide) h32v3 (by omega) (fun c1 => ?_) (fun c1 => ?_)
  · have h := h.1 c1
    refine g_iconst X dX8_row_80 ?_
    exact g_iret X hr hlk dX8_row_81 rfl ⟨_, rfl, (by omega), h⟩
  · have h := h.2 c1
    refine g_aload_n X 0 dX8_row_62 rfl ?_
    refine g_getF X (f := 95) dX8_row_63 lf_X8_80 rfl rfl rfl ?_
    refine g_bipush X dX8_row_66 (by decide +kernel) ?_
    refine g_iload_n X 1 dX8_row_68 rfl ?_
    refine g_imul X dX8_row_69 ?_
    refine g_iload_n X 2 dX8_row_70 rfl ?_
    refine g_iadd X dX8_row_71 ?_
    refine g_lconst X (z := 0) dX8_row_72 (by decide +kernel) ?_
    obtain ⟨q2, h⟩ := h
    refine g_last X dX8_row_73 rfl q2.1 q2.2 ?_
    refine g_iinc X (x := v3) (lv' := [(3, .int (iI (v3 + 1))), (0, .ref 72), (1, .int (iI v1))]) 2 dX8_row_74 rfl (by decide) rfl ?_
    refine g_goto X (tgt := 56) dX8_row_77 (by decide) ?_
    exact g_sub (lv' := [(0, .ref 72), (1, .int (iI v1)), (3, .int (iI (v3 + 1)))]) [1, 2, 0] rfl (h p l e s m args below meth c D cA ad X0 hr hlk)
theorem bX8_film_0 {v1 : Int} {v2 : Int} {σ : ASt} {Q : Int → ASt → Prop}  (h : EvZ K_X8_isReel [.int (iI v1)] σ (fun s1 => EvZ K_X8_isRow [.int (iI v2)] s1 (fun s2 => EvZ K_X8_isEmpty [.ref 72, .int (iI v1)] s2 (fun s3 => Q (-11) s3) (fun s3 => EvI K_X8_high [.ref 72, .int (iI v1)] s3 (fun x5 s4 => EvI K_X8_row [.ref 72, .int (iI v2), .int (iI x5)] s4 (fun x8 s7 => Wx K_X8_film (QI Q) 42 [(0, .ref 72), (1, .int (iI v1)), (2, .int (iI v2)), (4, .int (iI 0))] [] s7)))) (fun s2 => Q (-2) s2)) (fun s1 => Q (-2) s1)) : Wx K_X8_film (QI Q) 0 [(0, .ref 72), (1, .int (iI v1)), (2, .int (iI v2))] [] σ := by
  intro p l e s m args below meth c D cA ad X0 hr hlk
  have X : Cx p s m args c (adA ad) D cA ad RX8 cX8_film 5 := X0
  refine g_iload_n X 1 dX8_film_0 rfl ?_
  refine g_cSZ X (K := K_X8_isReel) [.int (iI v1)] [] dX8_film_1 ls_X8_149 rm_X8_film_X8_isReel ⟨by decide, by decide⟩ adA_id rfl (Nat.le_of_ble_eq_true rfl) rfl h (fun s1 h => ?_) (fun s1 h => ?_)
  · skip
    refine g_if_eq X (tgt := 14) dX8_film_4 (by decide) (by omega) (fun hc => absurd hc (by decide)) (fun _ => ?_)
    refine g_iload_n X 2 dX8_film_7 rfl ?_
    refine g_cSZ X (K := K_X8_isRow) [.int (iI v2)] [] dX8_film_8 ls_X8_251 rm_X8_film_X8_isRow ⟨by decide, by decide⟩ adA_id rfl (Nat.le_of_ble_eq_true rfl) rfl h (fun s2 h => ?_) (fun s2 h => ?_)
    · skip
      refine g_if_ne X (tgt := 17) dX8_film_11 (by decide) (by omega) (fun _ => ?_) (fun hc => absurd hc (by decide))
      refine g_aload_n X 0 dX8_film_17 rfl ?_
      refine g_iload_n X 1 dX8_film_18 rfl ?_
      refine g_cVZ X (K := K_X8_isEmpty) [.int (iI v1)] [] dX8_film_19 lv_X8_159 rm_X8_film_X8_isEmpty ⟨by decide, by decide⟩ adA_id rfl rfl rfl (Nat.le_of_ble_eq_true rfl) rfl h (fun s3 h => ?_) (fun s3 h => ?_)
      · skip
        refine g_if_eq X (tgt := 28) dX8_film_22 (by decide) (by omega) (fun hc => absurd hc (by decide)) (fun _ => ?_)
        refine g_bipush X dX8_film_25 (by decide +kernel) ?_
        exact g_iret X hr hlk dX8_film_27 rfl ⟨_, rfl, (by omega), h⟩
      · skip
        refine g_if_eq X (tgt := 28) dX8_film_22 (by decide) (by omega) (fun _ => ?_) (fun hc => absurd hc (by decide))
        refine g_aload_n X 0 dX8_film_28 rfl ?_
        refine g_iload_n X 2 dX8_film_29 rfl ?_
        refine g_aload_n X 0 dX8_film_30 rfl ?_
        refine g_iload_n X 1 dX8_film_31 rfl ?_
        refine g_cVI X (K := K_X8_high) [.int (iI v1)] [.int (iI v2), .ref 72] dX8_film_32 lv_X8_137 rm_X8_film_X8_high ⟨by decide, by decide⟩ adA_id rfl rfl rfl (Nat.le_of_ble_eq_true rfl) rfl h (fun x5 s4 q6 h => ?_)
        refine g_cVI X (K := K_X8_row) [.int (iI v2), .int (iI x5)] [] dX8_film_35 lv_X8_254 rm_X8_film_X8_row ⟨by decide, by decide⟩ adA_id rfl rfl rfl (Nat.le_of_ble_eq_true rfl) rfl h (fun x8 s7 q9 h => ?_)
        refine g_istore_n X (lv' := [(3, .int (iI x8)), (0, .ref 72), (1, .int (iI v1)), (2, .int (iI v2))]) dX8_film_38 (by decide) rfl ?_
        refine g_iconst X dX8_film_39 ?_
        refine g_istore X (lv' := [(4, .int (iI 0)), (3, .int (iI x8)), (0, .ref 72), (1, .int (iI v1)), (2, .int (iI v2))]) dX8_film_40 (by decide) rfl ?_
        exact g_sub (lv' := [(0, .ref 72), (1, .int (iI v1)), (2, .int (iI v2)), (4, .int (iI 0))]) [2, 3, 4, 0] rfl (h p l e s m args below meth c D cA ad X0 hr hlk)
    · skip
      refine g_if_ne X (tgt := 17) dX8_film_11 (by decide) (by omega) (fun hc => absurd hc (by decide)) (fun _ => ?_)
      refine g_bipush X dX8_film_14 (by decide +kernel) ?_
      exact g_iret X hr hlk dX8_film_16 rfl ⟨_, rfl, (by omega), h⟩
  · skip
    refine g_if_eq X (tgt := 14) dX8_film_4 (by decide) (by omega) (fun _ => ?_) (fun hc => absurd hc (by decide))
    refine g_bipush X dX8_film_14 (by decide +kernel) ?_
    exact g_iret X hr hlk dX8_film_16 rfl ⟨_, rfl, (by omega), h⟩
theorem eX8_film {v1 : Int} {v2 : Int} {σ : ASt} {Q : Int → ASt → Prop}  (h : EvZ K_X8_isReel [.int (iI v1)] σ (fun s1 => EvZ K_X8_isRow [.int (iI v2)] s1 (fun s2 => EvZ K_X8_isEmpty [.ref 72, .int (iI v1)] s2 (fun s3 => Q (-11) s3) (fun s3 => EvI K_X8_high [.ref 72, .int (iI v1)] s3 (fun x5 s4 => EvI K_X8_row [.ref 72, .int (iI v2), .int (iI x5)] s4 (fun x8 s7 => Wx K_X8_film (QI Q) 42 [(0, .ref 72), (1, .int (iI v1)), (2, .int (iI v2)), (4, .int (iI 0))] [] s7)))) (fun s2 => Q (-2) s2)) (fun s1 => Q (-2) s1)) : EvI K_X8_film [.ref 72, .int (iI v1), .int (iI v2)] σ Q := Ev.of rfl (Nat.le_of_ble_eq_true rfl) rfl (bX8_film_0  h)
theorem bX8_film_42 {v1 : Int} {v2 : Int} {v4 : Int} {σ : ASt} {Q : Int → ASt → Prop} (h32v4 : i32 v4) (h : EvI K_X8_high [.ref 72, .int (iI v1)] σ (fun x2 s1 => ((x2 ≤ v4 → EvI K_X8_high [.ref 72, .int (iI v1)] s1 (fun x6 s5 => Q x6 s5)) ∧ (v4 < x2 → EvI K_X8_digitAt [.ref 72, .int (iI v1), .int (iI v4)] s1 (fun x9 s8 => ((0 : Int) ≤ ((60 * v2) + v4) ∧ ((60 * v2) + v4) < 180) ∧ Wx K_X8_film (QI Q) 42 [(0, .ref 72), (1, .int (iI v1)), (2, .int (iI v2)), (4, .int (iI (v4 + 1)))] [] (sL s8 95 ((60 * v2) + v4) x9)))))) : Wx K_X8_film (QI Q) 42 [(0, .ref 72), (1, .int (iI v1)), (2, .int (iI v2)), (4, .int (iI v4))] [] σ := by
  intro p l e s m args below meth c D cA ad X0 hr hlk
  have X : Cx p s m args c (adA ad) D cA ad RX8 cX8_film 5 := X0
  refine g_iload X 3 dX8_film_42 rfl ?_
  refine g_aload_n X 0 dX8_film_44 rfl ?_
  refine g_iload_n X 1 dX8_film_45 rfl ?_
  refine g_cVI X (K := K_X8_high) [.int (iI v1)] [.int (iI v4)] dX8_film_46 lv_X8_137 rm_X8_film_X8_high ⟨by decide, by decide⟩ adA_id rfl rfl rfl (Nat.le_of_ble_eq_true rfl) rfl h (fun x2 s1 q3 h => ?_)
  refine g_icmp_ge X (tgt := 78) dX8_film_49 (by decide) h32v4 q3 (fun c4 => ?_) (fun c4 => ?_)
  · have h := h.1 c4
    refine g_aload_n X 0 dX8_film_78 rfl ?_
    refine g_iload_n X 1 dX8_film_79 rfl ?_
    refine g_cVI X (K := K_X8_high) [.int (iI v1)] [] dX8_film_80 lv_X8_137 rm_X8_film_X8_high ⟨by decide, by decide⟩ adA_id rfl rfl rfl (Nat.le_of_ble_eq_true rfl) rfl h (fun x6 s5 q7 h => ?_)
    exact g_iret X hr hlk dX8_film_83 rfl ⟨_, rfl, q7, h⟩
  · have h := h.2 c4
    refine g_aload_n X 0 dX8_film_52 rfl ?_
    refine g_getF X (f := 95) dX8_film_53 lf_X8_80 rfl rfl rfl ?_
    refine g_bipush X dX8_film_56 (by decide +kernel) ?_
    refine g_iload_n X 2 dX8_film_58 rfl ?_
    refine g_imul X dX8_film_59 ?_
    refine g_iload X 3 dX8_film_60 rfl ?_
    refine g_iadd X dX8_film_62 ?_
    refine g_aload_n X 0 dX8_film_63 rfl ?_
    refine g_iload_n X 1 dX8_film_64 rfl ?_
    refine g_iload X 3 dX8_film_65 rfl ?_
    refine g_cVI X (K := K_X8_digitAt) [.int (iI v1), .int (iI v4)] [.int (iI ((60 * v2) + v4)), .ref 95] dX8_film_67 lv_X8_140 rm_X8_film_X8_digitAt ⟨by decide, by decide⟩ adA_id rfl rfl rfl (Nat.le_of_ble_eq_true rfl) rfl h (fun x9 s8 q10 h => ?_)
    refine g_i2l X dX8_film_70 q10 ?_
    obtain ⟨q11, h⟩ := h
    refine g_last X dX8_film_71 rfl q11.1 q11.2 ?_
    refine g_iinc X (x := v4) (lv' := [(4, .int (iI (v4 + 1))), (0, .ref 72), (1, .int (iI v1)), (2, .int (iI v2))]) 3 dX8_film_72 rfl (by decide) rfl ?_
    refine g_goto X (tgt := 42) dX8_film_75 (by decide) ?_
    exact g_sub (lv' := [(0, .ref 72), (1, .int (iI v1)), (2, .int (iI v2)), (4, .int (iI (v4 + 1)))]) [1, 2, 3, 0] rfl (h p l e s m args below meth c D cA ad X0 hr hlk)
theorem bX8_get_0 {v1 : Int} {v2 : Int} {σ : ASt} {Q : Int → ASt → Prop} (h32v2 : i32 v2) (h : EvZ K_X8_isRow [.int (iI v1)] σ (fun s1 => ((0 : Int) ≤ v1 ∧ v1 < 3) ∧ i32 ((gI s1 93 v1)) ∧ (((gI s1 93 v1) = 0 → Q (-9223372036854775808) s1) ∧ ((gI s1 93 v1) ≠ 0 → i32 (((gI s1 94 v1) - 1)) ∧ EvZ K_X8_in [.long (lI v2), .long (lI 0), .long (lI ((gI s1 94 v1) - 1))] s1 (fun s6 => ((0 : Int) ≤ ((60 * v1) + v2) ∧ ((60 * v1) + v2) < 180) ∧ i64 ((gL s6 95 ((60 * v1) + v2))) ∧ Q (gL s6 95 ((60 * v1) + v2)) s6) (fun s6 => Q (-9223372036854775808) s6)))) (fun s1 => Q (-9223372036854775808) s1)) : Wx K_X8_get (QL Q) 0 [(0, .ref 72), (1, .int (iI v1)), (2, .int (iI v2))] [] σ := by
  intro p l e s m args below meth c D cA ad X0 hr hlk
  have X : Cx p s m args c (adA ad) D cA ad RX8 cX8_get 3 := X0
  refine g_iload_n X 1 dX8_get_0 rfl ?_
  refine g_cSZ X (K := K_X8_isRow) [.int (iI v1)] [] dX8_get_1 ls_X8_251 rm_X8_get_X8_isRow ⟨by decide, by decide⟩ adA_id rfl (Nat.le_of_ble_eq_true rfl) rfl h (fun s1 h => ?_) (fun s1 h => ?_)
  · skip
    refine g_if_eq X (tgt := 48) dX8_get_4 (by decide) (by omega) (fun hc => absurd hc (by decide)) (fun _ => ?_)
    refine g_aload_n X 0 dX8_get_7 rfl ?_
    refine g_getF X (f := 93) dX8_get_8 lf_X8_73 rfl rfl rfl ?_
    refine g_iload_n X 1 dX8_get_11 rfl ?_
    obtain ⟨q2, h⟩ := h
    refine g_zald X dX8_get_12 rfl q2.1 q2.2 ?_
    obtain ⟨q3, h⟩ := h
    refine g_if_eq X (tgt := 48) dX8_get_13 (by decide) q3 (fun c4 => ?_) (fun c4 => ?_)
    · have h := h.1 c4
      refine g_ldc2 X (z := (-9223372036854775808)) dX8_get_48 lc_X8_127 (by decide +kernel) ?_
      exact g_lret X hr hlk dX8_get_51 ⟨_, rfl, (by omega), h⟩
    · have h := h.2 c4
      refine g_iload_n X 2 dX8_get_16 rfl ?_
      refine g_i2l X dX8_get_17 h32v2 ?_
      refine g_lconst X (z := 0) dX8_get_18 (by decide +kernel) ?_
      refine g_aload_n X 0 dX8_get_19 rfl ?_
      refine g_getF X (f := 94) dX8_get_20 lf_X8_77 rfl rfl rfl ?_
      refine g_iload_n X 1 dX8_get_23 rfl ?_
      refine g_iald X dX8_get_24 rfl q2.1 q2.2 ?_
      refine g_iconst X dX8_get_25 ?_
      refine g_isub X dX8_get_26 ?_
      obtain ⟨q5, h⟩ := h
      refine g_i2l X dX8_get_27 q5 ?_
      refine g_cSZ X (K := K_X8_in) [.long (lI v2), .long (lI 0), .long (lI ((gI s1 94 v1) - 1))] [] dX8_get_28 ls_X8_104 rm_X8_get_X8_in ⟨by decide, by decide⟩ adA_id rfl (Nat.le_of_ble_eq_true rfl) rfl h (fun s6 h => ?_) (fun s6 h => ?_)
      · skip
        refine g_if_eq X (tgt := 48) dX8_get_31 (by decide) (by omega) (fun hc => absurd hc (by decide)) (fun _ => ?_)
        refine g_aload_n X 0 dX8_get_34 rfl ?_
        refine g_getF X (f := 95) dX8_get_35 lf_X8_80 rfl rfl rfl ?_
        refine g_bipush X dX8_get_38 (by decide +kernel) ?_
        refine g_iload_n X 1 dX8_get_40 rfl ?_
        refine g_imul X dX8_get_41 ?_
        refine g_iload_n X 2 dX8_get_42 rfl ?_
        refine g_iadd X dX8_get_43 ?_
        obtain ⟨q7, h⟩ := h
        refine g_lald X dX8_get_44 rfl q7.1 q7.2 ?_
        refine g_goto X (tgt := 51) dX8_get_45 (by decide) ?_
        obtain ⟨q8, h⟩ := h
        exact g_lret X hr hlk dX8_get_51 ⟨_, rfl, q8, h⟩
      · skip
        refine g_if_eq X (tgt := 48) dX8_get_31 (by decide) (by omega) (fun _ => ?_) (fun hc => absurd hc (by decide))
        refine g_ldc2 X (z := (-9223372036854775808)) dX8_get_48 lc_X8_127 (by decide +kernel) ?_
        exact g_lret X hr hlk dX8_get_51 ⟨_, rfl, (by omega), h⟩
  · skip
    refine g_if_eq X (tgt := 48) dX8_get_4 (by decide) (by omega) (fun _ => ?_) (fun hc => absurd hc (by decide))
    refine g_ldc2 X (z := (-9223372036854775808)) dX8_get_48 lc_X8_127 (by decide +kernel) ?_
    exact g_lret X hr hlk dX8_get_51 ⟨_, rfl, (by omega), h⟩
theorem eX8_get {v1 : Int} {v2 : Int} {σ : ASt} {Q : Int → ASt → Prop} (h32v2 : i32 v2) (h : EvZ K_X8_isRow [.int (iI v1)] σ (fun s1 => ((0 : Int) ≤ v1 ∧ v1 < 3) ∧ i32 ((gI s1 93 v1)) ∧ (((gI s1 93 v1) = 0 → Q (-9223372036854775808) s1) ∧ ((gI s1 93 v1) ≠ 0 → i32 (((gI s1 94 v1) - 1)) ∧ EvZ K_X8_in [.long (lI v2), .long (lI 0), .long (lI ((gI s1 94 v1) - 1))] s1 (fun s6 => ((0 : Int) ≤ ((60 * v1) + v2) ∧ ((60 * v1) + v2) < 180) ∧ i64 ((gL s6 95 ((60 * v1) + v2))) ∧ Q (gL s6 95 ((60 * v1) + v2)) s6) (fun s6 => Q (-9223372036854775808) s6)))) (fun s1 => Q (-9223372036854775808) s1)) : EvL K_X8_get [.ref 72, .int (iI v1), .int (iI v2)] σ Q := Ev.of rfl (Nat.le_of_ble_eq_true rfl) rfl (bX8_get_0 h32v2 h)
theorem bX8_highest_0 {v1 : Int} {σ : ASt} {Q : Int → ASt → Prop}  (h : EvI K_X8_high [.ref 72, .int (iI v1)] σ (fun x2 s1 => Wx K_X8_highest (QI Q) 8 [(0, .ref 72), (1, .int (iI v1)), (2, .int (iI (x2 - 1)))] [] s1)) : Wx K_X8_highest (QI Q) 0 [(0, .ref 72), (1, .int (iI v1))] [] σ := by
  intro p l e s m args below meth c D cA ad X0 hr hlk
  have X : Cx p s m args c (adA ad) D cA ad RX8 cX8_highest 3 := X0
  refine g_aload_n X 0 dX8_highest_0 rfl ?_
  refine g_iload_n X 1 dX8_highest_1 rfl ?_
  refine g_cVI X (K := K_X8_high) [.int (iI v1)] [] dX8_highest_2 lv_X8_137 rm_X8_highest_X8_high ⟨by decide, by decide⟩ adA_id rfl rfl rfl (Nat.le_of_ble_eq_true rfl) rfl h (fun x2 s1 q3 h => ?_)
  refine g_iconst X dX8_highest_5 ?_
  refine g_isub X dX8_highest_6 ?_
  refine g_istore_n X (lv' := [(2, .int (iI (x2 - 1))), (0, .ref 72), (1, .int (iI v1))]) dX8_highest_7 (by decide) rfl ?_
  exact g_sub (lv' := [(0, .ref 72), (1, .int (iI v1)), (2, .int (iI (x2 - 1)))]) [1, 2, 0] rfl (h p l e s m args below meth c D cA ad X0 hr hlk)
theorem eX8_highest {v1 : Int} {σ : ASt} {Q : Int → ASt → Prop}  (h : EvI K_X8_high [.ref 72, .int (iI v1)] σ (fun x2 s1 => Wx K_X8_highest (QI Q) 8 [(0, .ref 72), (1, .int (iI v1)), (2, .int (iI (x2 - 1)))] [] s1)) : EvI K_X8_highest [.ref 72, .int (iI v1)] σ Q := Ev.of rfl (Nat.le_of_ble_eq_true rfl) rfl (bX8_highest_0  h)
theorem bX8_highest_8 {v1 : Int} {v2 : Int} {σ : ASt} {Q : Int → ASt → Prop} (h32v2 : i32 v2) (h : ((v2 < 0 → Q v2 σ) ∧ (0 ≤ v2 → EvI K_X8_digitAt [.ref 72, .int (iI v1), .int (iI v2)] σ (fun x3 s2 => ((x3 ≠ 0 → Q v2 s2) ∧ (x3 = 0 → Wx K_X8_highest (QI Q) 8 [(0, .ref 72), (1, .int (iI v1)), (2, .int (iI (v2 + (-1))))] [] s2)))))) : Wx K_X8_highest (QI Q) 8 [(0, .ref 72), (1, .int (iI v1)), (2, .int (iI v2))] [] σ := by
  intro p l e s m args below meth c D cA ad X0 hr hlk
  have X : Cx p s m args c (adA ad) D cA ad RX8 cX8_highest 3 := X0
  refine g_iload_n X 2 dX8_highest_8 rfl ?_
  refine g_if_lt X (tgt := 27) dX8_highest_9 (by decide) h32v2 (fun c1 => ?_) (fun c1 => ?_)
  · have h := h.1 c1
    refine g_iload_n X 2 dX8_highest_27 rfl ?_
    exact g_iret X hr hlk dX8_highest_28 rfl ⟨_, rfl, h32v2, h⟩
  · have h := h.2 c1
    refine g_aload_n X 0 dX8_highest_12 rfl ?_
    refine g_iload_n X 1 dX8_highest_13 rfl ?_
    refine g_iload_n X 2 dX8_highest_14 rfl ?_
    refine g_cVI X (K := K_X8_digitAt) [.int (iI v1), .int (iI v2)] [] dX8_highest_15 lv_X8_140 rm_X8_highest_X8_digitAt ⟨by decide, by decide⟩ adA_id rfl rfl rfl (Nat.le_of_ble_eq_true rfl) rfl h (fun x3 s2 q4 h => ?_)
    refine g_if_ne X (tgt := 27) dX8_highest_18 (by decide) q4 (fun c5 => ?_) (fun c5 => ?_)
    · have h := h.1 c5
      refine g_iload_n X 2 dX8_highest_27 rfl ?_
      exact g_iret X hr hlk dX8_highest_28 rfl ⟨_, rfl, h32v2, h⟩
    · have h := h.2 c5
      refine g_iinc X (x := v2) (lv' := [(2, .int (iI (v2 + (-1)))), (0, .ref 72), (1, .int (iI v1))]) 2 dX8_highest_21 rfl (by decide) rfl ?_
      refine g_goto X (tgt := 8) dX8_highest_24 (by decide) ?_
      exact g_sub (lv' := [(0, .ref 72), (1, .int (iI v1)), (2, .int (iI (v2 + (-1))))]) [1, 2, 0] rfl (h p l e s m args below meth c D cA ad X0 hr hlk)
theorem bX8_takes_0 {v1 : Int} {σ : ASt} {Q : Int → ASt → Prop}  (h : Wx K_X8_takes (QI Q) 4 [(0, .ref 72), (1, .int (iI v1)), (2, .int (iI 0)), (3, .int (iI 0))] [] σ) : Wx K_X8_takes (QI Q) 0 [(0, .ref 72), (1, .int (iI v1))] [] σ := by
  intro p l e s m args below meth c D cA ad X0 hr hlk
  have X : Cx p s m args c (adA ad) D cA ad RX8 cX8_takes 4 := X0
  refine g_iconst X dX8_takes_0 ?_
  refine g_istore_n X (lv' := [(2, .int (iI 0)), (0, .ref 72), (1, .int (iI v1))]) dX8_takes_1 (by decide) rfl ?_
  refine g_iconst X dX8_takes_2 ?_
  refine g_istore_n X (lv' := [(3, .int (iI 0)), (2, .int (iI 0)), (0, .ref 72), (1, .int (iI v1))]) dX8_takes_3 (by decide) rfl ?_
  exact g_sub (lv' := [(0, .ref 72), (1, .int (iI v1)), (2, .int (iI 0)), (3, .int (iI 0))]) [2, 3, 1, 0] rfl (h p l e s m args below meth c D cA ad X0 hr hlk)
theorem eX8_takes {v1 : Int} {σ : ASt} {Q : Int → ASt → Prop}  (h : Wx K_X8_takes (QI Q) 4 [(0, .ref 72), (1, .int (iI v1)), (2, .int (iI 0)), (3, .int (iI 0))] [] σ) : EvI K_X8_takes [.ref 72, .int (iI v1)] σ Q := Ev.of rfl (Nat.le_of_ble_eq_true rfl) rfl (bX8_takes_0  h)
theorem bX8_takes_4 {v1 : Int} {v2 : Int} {v3 : Int} {σ : ASt} {Q : Int → ASt → Prop} (h32v2 : i32 v2) (h32v3 : i32 v3) (h : EvI K_X8_high [.ref 72, .int (iI v1)] σ (fun x2 s1 => ((x2 ≤ v3 → Q v2 s1) ∧ (v3 < x2 → EvI K_X8_digitAt [.ref 72, .int (iI v1), .int (iI v3)] s1 (fun x6 s5 => ((0 : Int) ≤ v3 ∧ v3 < 50) ∧ i32 ((gI s5 80 v3)) ∧ ((x6 ≠ (gI s5 80 v3) → ((0 : Int) ≤ ((50 * v1) + v3) ∧ ((50 * v1) + v3) < 300) ∧ Wx K_X8_takes (QI Q) 4 [(0, .ref 72), (1, .int (iI v1)), (2, .int (iI (v2 + 1))), (3, .int (iI (v3 + 1)))] [] (sI s5 79 ((50 * v1) + v3) (gI s5 80 v3))) ∧ (x6 = (gI s5 80 v3) → ((0 : Int) ≤ ((50 * v1) + v3) ∧ ((50 * v1) + v3) < 300) ∧ Wx K_X8_takes (QI Q) 4 [(0, .ref 72), (1, .int (iI v1)), (2, .int (iI (v2 + 0))), (3, .int (iI (v3 + 1)))] [] (sI s5 79 ((50 * v1) + v3) (gI s5 80 v3))))))))) : Wx K_X8_takes (QI Q) 4 [(0, .ref 72), (1, .int (iI v1)), (2, .int (iI v2)), (3, .int (iI v3))] [] σ := by
  intro p l e s m args below meth c D cA ad X0 hr hlk
  have X : Cx p s m args c (adA ad) D cA ad RX8 cX8_takes 4 := X0
  refine g_iload_n X 3 dX8_takes_4 rfl ?_
  refine g_aload_n X 0 dX8_takes_5 rfl ?_
  refine g_iload_n X 1 dX8_takes_6 rfl ?_
  refine g_cVI X (K := K_X8_high) [.int (iI v1)] [.int (iI v3)] dX8_takes_7 lv_X8_137 rm_X8_takes_X8_high ⟨by decide, by decide⟩ adA_id rfl rfl rfl (Nat.le_of_ble_eq_true rfl) rfl h (fun x2 s1 q3 h => ?_)
  refine g_icmp_ge X (tgt := 59) dX8_takes_10 (by decide) h32v3 q3 (fun c4 => ?_) (fun c4 => ?_)
  · have h := h.1 c4
    refine g_iload_n X 2 dX8_takes_59 rfl ?_
    exact g_iret X hr hlk dX8_takes_60 rfl ⟨_, rfl, h32v2, h⟩
  · have h := h.2 c4
    refine g_iload_n X 2 dX8_takes_13 rfl ?_
    refine g_aload_n X 0 dX8_takes_14 rfl ?_
    refine g_iload_n X 1 dX8_takes_15 rfl ?_
    refine g_iload_n X 3 dX8_takes_16 rfl ?_
    refine g_cVI X (K := K_X8_digitAt) [.int (iI v1), .int (iI v3)] [.int (iI v2)] dX8_takes_17 lv_X8_140 rm_X8_takes_X8_digitAt ⟨by decide, by decide⟩ adA_id rfl rfl rfl (Nat.le_of_ble_eq_true rfl) rfl h (fun x6 s5 q7 h => ?_)
    refine g_aload_n X 0 dX8_takes_20 rfl ?_
    refine g_getF X (f := 80) dX8_takes_21 lf_X8_34 rfl rfl rfl ?_
    refine g_iload_n X 3 dX8_takes_24 rfl ?_
    obtain ⟨q8, h⟩ := h
    refine g_iald X dX8_takes_25 rfl q8.1 q8.2 ?_
    obtain ⟨q9, h⟩ := h
    refine g_icmp_ne X (tgt := 33) dX8_takes_26 (by decide) q7 q9 (fun c10 => ?_) (fun c10 => ?_)
    · have h := h.1 c10
      refine g_iconst X dX8_takes_33 ?_
      refine g_iadd X dX8_takes_34 ?_
      refine g_istore_n X (lv' := [(2, .int (iI (v2 + 1))), (0, .ref 72), (1, .int (iI v1)), (3, .int (iI v3))]) dX8_takes_35 (by decide) rfl ?_
      refine g_aload_n X 1 dX8_takes_36 rfl ?_
      refine g_getF X (f := 79) dX8_takes_37 lf_X8_31 rfl rfl rfl ?_
      refine g_bipush X dX8_takes_40 (by decide +kernel) ?_
      refine g_iload_n X 2 dX8_takes_42 rfl ?_
      refine g_imul X dX8_takes_43 ?_
      refine g_iload_n X 3 dX8_takes_44 rfl ?_
      refine g_iadd X dX8_takes_45 ?_
      refine g_aload_n X 1 dX8_takes_46 rfl ?_
      refine g_getF X (f := 80) dX8_takes_47 lf_X8_34 rfl rfl rfl ?_
      refine g_iload_n X 3 dX8_takes_50 rfl ?_
      refine g_iald X dX8_takes_51 rfl q8.1 q8.2 ?_
      obtain ⟨q11, h⟩ := h
      refine g_iast X dX8_takes_52 rfl q11.1 q11.2 ?_
      refine g_iinc X (x := v3) (lv' := [(3, .int (iI (v3 + 1))), (2, .int (iI (v2 + 1))), (0, .ref 72), (1, .int (iI v1))]) 3 dX8_takes_53 rfl (by decide) rfl ?_
      refine g_goto X (tgt := 4) dX8_takes_56 (by decide) ?_
      exact g_sub (lv' := [(0, .ref 72), (1, .int (iI v1)), (2, .int (iI (v2 + 1))), (3, .int (iI (v3 + 1)))]) [2, 3, 1, 0] rfl (h p l e s m args below meth c D cA ad X0 hr hlk)
    · have h := h.2 c10
      refine g_iconst X dX8_takes_29 ?_
      refine g_goto X (tgt := 34) dX8_takes_30 (by decide) ?_
      refine g_iadd X dX8_takes_34 ?_
      refine g_istore_n X (lv' := [(2, .int (iI (v2 + 0))), (0, .ref 72), (1, .int (iI v1)), (3, .int (iI v3))]) dX8_takes_35 (by decide) rfl ?_
      refine g_aload_n X 1 dX8_takes_36 rfl ?_
      refine g_getF X (f := 79) dX8_takes_37 lf_X8_31 rfl rfl rfl ?_
      refine g_bipush X dX8_takes_40 (by decide +kernel) ?_
      refine g_iload_n X 2 dX8_takes_42 rfl ?_
      refine g_imul X dX8_takes_43 ?_
      refine g_iload_n X 3 dX8_takes_44 rfl ?_
      refine g_iadd X dX8_takes_45 ?_
      refine g_aload_n X 1 dX8_takes_46 rfl ?_
      refine g_getF X (f := 80) dX8_takes_47 lf_X8_34 rfl rfl rfl ?_
      refine g_iload_n X 3 dX8_takes_50 rfl ?_
      refine g_iald X dX8_takes_51 rfl q8.1 q8.2 ?_
      obtain ⟨q12, h⟩ := h
      refine g_iast X dX8_takes_52 rfl q12.1 q12.2 ?_
      refine g_iinc X (x := v3) (lv' := [(3, .int (iI (v3 + 1))), (2, .int (iI (v2 + 0))), (0, .ref 72), (1, .int (iI v1))]) 3 dX8_takes_53 rfl (by decide) rfl ?_
      refine g_goto X (tgt := 4) dX8_takes_56 (by decide) ?_
      exact g_sub (lv' := [(0, .ref 72), (1, .int (iI v1)), (2, .int (iI (v2 + 0))), (3, .int (iI (v3 + 1)))]) [2, 3, 1, 0] rfl (h p l e s m args below meth c D cA ad X0 hr hlk)
theorem bX8_holds_0 {v1 : Int} {v2 : Int} {σ : ASt} {Q : Int → ASt → Prop}  (h : ((0 : Int) ≤ v1 ∧ v1 < 6) ∧ EvV K_X8_forgets [.ref 72, .int (iI v1)] (sI σ 78 v1 v2) (fun s2 => EvI K_X8_takes [.ref 72, .int (iI v1)] s2 (fun x4 s3 => EvI K_X8_filled [.ref 72, .int (iI v1)] s3 (fun x7 s6 => Q x7 s6)))) : Wx K_X8_holds (QI Q) 0 [(0, .ref 72), (1, .int (iI v1)), (2, .int (iI v2))] [] σ := by
  intro p l e s m args below meth c D cA ad X0 hr hlk
  have X : Cx p s m args c (adA ad) D cA ad RX8 cX8_holds 3 := X0
  refine g_aload_n X 0 dX8_holds_0 rfl ?_
  refine g_getF X (f := 78) dX8_holds_1 lf_X8_28 rfl rfl rfl ?_
  refine g_iload_n X 1 dX8_holds_4 rfl ?_
  refine g_iload_n X 2 dX8_holds_5 rfl ?_
  obtain ⟨q1, h⟩ := h
  refine g_iast X dX8_holds_6 rfl q1.1 q1.2 ?_
  refine g_aload_n X 0 dX8_holds_7 rfl ?_
  refine g_iload_n X 1 dX8_holds_8 rfl ?_
  refine g_cVV X (K := K_X8_forgets) [.int (iI v1)] [] dX8_holds_9 lv_X8_120 rm_X8_holds_X8_forgets ⟨by decide, by decide⟩ adA_id rfl rfl rfl (Nat.le_of_ble_eq_true rfl) rfl h (fun s2 h => ?_)
  refine g_aload_n X 0 dX8_holds_12 rfl ?_
  refine g_iload_n X 1 dX8_holds_13 rfl ?_
  refine g_cVI X (K := K_X8_takes) [.int (iI v1)] [] dX8_holds_14 lv_X8_143 rm_X8_holds_X8_takes ⟨by decide, by decide⟩ adA_id rfl rfl rfl (Nat.le_of_ble_eq_true rfl) rfl h (fun x4 s3 q5 h => ?_)
  refine g_pop X dX8_holds_17 rfl ?_
  refine g_aload_n X 0 dX8_holds_18 rfl ?_
  refine g_iload_n X 1 dX8_holds_19 rfl ?_
  refine g_cVI X (K := K_X8_filled) [.int (iI v1)] [] dX8_holds_20 lv_X8_146 rm_X8_holds_X8_filled ⟨by decide, by decide⟩ adA_id rfl rfl rfl (Nat.le_of_ble_eq_true rfl) rfl h (fun x7 s6 q8 h => ?_)
  exact g_iret X hr hlk dX8_holds_23 rfl ⟨_, rfl, q8, h⟩
theorem eX8_holds {v1 : Int} {v2 : Int} {σ : ASt} {Q : Int → ASt → Prop}  (h : ((0 : Int) ≤ v1 ∧ v1 < 6) ∧ EvV K_X8_forgets [.ref 72, .int (iI v1)] (sI σ 78 v1 v2) (fun s2 => EvI K_X8_takes [.ref 72, .int (iI v1)] s2 (fun x4 s3 => EvI K_X8_filled [.ref 72, .int (iI v1)] s3 (fun x7 s6 => Q x7 s6)))) : EvI K_X8_holds [.ref 72, .int (iI v1), .int (iI v2)] σ Q := Ev.of rfl (Nat.le_of_ble_eq_true rfl) rfl (bX8_holds_0  h)
theorem bX8_image_0 {σ : ASt} {Q : Int → ASt → Prop}  (h : Wx K_X8_image (QI Q) 2 [(0, .ref 72), (1, .int (iI 0))] [] σ) : Wx K_X8_image (QI Q) 0 [(0, .ref 72)] [] σ := by
  intro p l e s m args below meth c D cA ad X0 hr hlk
  have X : Cx p s m args c (adA ad) D cA ad RX8 cX8_image 2 := X0
  refine g_iconst X dX8_image_0 ?_
  refine g_istore_n X (lv' := [(1, .int (iI 0)), (0, .ref 72)]) dX8_image_1 (by decide) rfl ?_
  exact g_sub (lv' := [(0, .ref 72), (1, .int (iI 0))]) [1, 0] rfl (h p l e s m args below meth c D cA ad X0 hr hlk)
theorem eX8_image {σ : ASt} {Q : Int → ASt → Prop}  (h : Wx K_X8_image (QI Q) 2 [(0, .ref 72), (1, .int (iI 0))] [] σ) : EvI K_X8_image [.ref 72] σ Q := Ev.of rfl (Nat.le_of_ble_eq_true rfl) rfl (bX8_image_0  h)
theorem bX8_image_2 {v1 : Int} {σ : ASt} {Q : Int → ASt → Prop} (h32v1 : i32 v1) (h : ((24 ≤ v1 → Wx K_X8_image (QI Q) 28 [(0, .ref 72), (1, .int (iI 0))] [] σ) ∧ (v1 < 24 → ((0 : Int) ≤ v1 ∧ v1 < 24) ∧ Wx K_X8_image (QI Q) 2 [(0, .ref 72), (1, .int (iI (v1 + 1)))] [] (sI σ 97 v1 (gI σ 73 v1))))) : Wx K_X8_image (QI Q) 2 [(0, .ref 72), (1, .int (iI v1))] [] σ := by
  intro p l e s m args below meth c D cA ad X0 hr hlk
  have X : Cx p s m args c (adA ad) D cA ad RX8 cX8_image 2 := X0
  refine g_iload_n X 1 dX8_image_2 rfl ?_
  refine g_bipush X dX8_image_3 (by decide +kernel) ?_
  refine g_icmp_ge X (tgt := 26) dX8_image_5 (by decide) h32v1 (by omega) (fun c1 => ?_) (fun c1 => ?_)
  · have h := h.1 c1
    refine g_iconst X dX8_image_26 ?_
    refine g_istore_n X (lv' := [(1, .int (iI 0)), (0, .ref 72)]) dX8_image_27 (by decide) rfl ?_
    exact g_sub (lv' := [(0, .ref 72), (1, .int (iI 0))]) [1, 0] rfl (h p l e s m args below meth c D cA ad X0 hr hlk)
  · have h := h.2 c1
    refine g_aload_n X 0 dX8_image_8 rfl ?_
    refine g_getF X (f := 97) dX8_image_9 lf_X8_86 rfl rfl rfl ?_
    refine g_iload_n X 1 dX8_image_12 rfl ?_
    refine g_aload_n X 0 dX8_image_13 rfl ?_
    refine g_getF X (f := 73) dX8_image_14 lf_X8_11 rfl rfl rfl ?_
    refine g_iload_n X 1 dX8_image_17 rfl ?_
    obtain ⟨q2, h⟩ := h
    refine g_iald X dX8_image_18 rfl q2.1 q2.2 ?_
    refine g_iast X dX8_image_19 rfl q2.1 q2.2 ?_
    refine g_iinc X (x := v1) (lv' := [(1, .int (iI (v1 + 1))), (0, .ref 72)]) 1 dX8_image_20 rfl (by decide) rfl ?_
    refine g_goto X (tgt := 2) dX8_image_23 (by decide) ?_
    exact g_sub (lv' := [(0, .ref 72), (1, .int (iI (v1 + 1)))]) [1, 0] rfl (h p l e s m args below meth c D cA ad X0 hr hlk)
theorem bX8_image_28 {v1 : Int} {σ : ASt} {Q : Int → ASt → Prop} (h32v1 : i32 v1) (h : ((3 ≤ v1 → Wx K_X8_image (QI Q) 53 [(0, .ref 72), (1, .int (iI 0))] [] σ) ∧ (v1 < 3 → ((0 : Int) ≤ v1 ∧ v1 < 3) ∧ Wx K_X8_image (QI Q) 28 [(0, .ref 72), (1, .int (iI (v1 + 1)))] [] (sI σ 98 v1 (gI σ 74 v1))))) : Wx K_X8_image (QI Q) 28 [(0, .ref 72), (1, .int (iI v1))] [] σ := by
  intro p l e s m args below meth c D cA ad X0 hr hlk
  have X : Cx p s m args c (adA ad) D cA ad RX8 cX8_image 2 := X0
  refine g_iload_n X 1 dX8_image_28 rfl ?_
  refine g_iconst X dX8_image_29 ?_
  refine g_icmp_ge X (tgt := 51) dX8_image_30 (by decide) h32v1 (by omega) (fun c1 => ?_) (fun c1 => ?_)
  · have h := h.1 c1
    refine g_iconst X dX8_image_51 ?_
    refine g_istore_n X (lv' := [(1, .int (iI 0)), (0, .ref 72)]) dX8_image_52 (by decide) rfl ?_
    exact g_sub (lv' := [(0, .ref 72), (1, .int (iI 0))]) [1, 0] rfl (h p l e s m args below meth c D cA ad X0 hr hlk)
  · have h := h.2 c1
    refine g_aload_n X 0 dX8_image_33 rfl ?_
    refine g_getF X (f := 98) dX8_image_34 lf_X8_89 rfl rfl rfl ?_
    refine g_iload_n X 1 dX8_image_37 rfl ?_
    refine g_aload_n X 0 dX8_image_38 rfl ?_
    refine g_getF X (f := 74) dX8_image_39 lf_X8_15 rfl rfl rfl ?_
    refine g_iload_n X 1 dX8_image_42 rfl ?_
    obtain ⟨q2, h⟩ := h
    refine g_iald X dX8_image_43 rfl q2.1 q2.2 ?_
    refine g_iast X dX8_image_44 rfl q2.1 q2.2 ?_
    refine g_iinc X (x := v1) (lv' := [(1, .int (iI (v1 + 1))), (0, .ref 72)]) 1 dX8_image_45 rfl (by decide) rfl ?_
    refine g_goto X (tgt := 28) dX8_image_48 (by decide) ?_
    exact g_sub (lv' := [(0, .ref 72), (1, .int (iI (v1 + 1)))]) [1, 0] rfl (h p l e s m args below meth c D cA ad X0 hr hlk)
theorem bX8_image_53 {v1 : Int} {σ : ASt} {Q : Int → ASt → Prop} (h32v1 : i32 v1) (h : ((6 ≤ v1 → Wx K_X8_image (QI Q) 79 [(0, .ref 72), (1, .int (iI 0))] [] σ) ∧ (v1 < 6 → ((0 : Int) ≤ v1 ∧ v1 < 6) ∧ Wx K_X8_image (QI Q) 53 [(0, .ref 72), (1, .int (iI (v1 + 1)))] [] (sI σ 99 v1 (gI σ 78 v1))))) : Wx K_X8_image (QI Q) 53 [(0, .ref 72), (1, .int (iI v1))] [] σ := by
  intro p l e s m args below meth c D cA ad X0 hr hlk
  have X : Cx p s m args c (adA ad) D cA ad RX8 cX8_image 2 := X0
  refine g_iload_n X 1 dX8_image_53 rfl ?_
  refine g_bipush X dX8_image_54 (by decide +kernel) ?_
  refine g_icmp_ge X (tgt := 77) dX8_image_56 (by decide) h32v1 (by omega) (fun c1 => ?_) (fun c1 => ?_)
  · have h := h.1 c1
    refine g_iconst X dX8_image_77 ?_
    refine g_istore_n X (lv' := [(1, .int (iI 0)), (0, .ref 72)]) dX8_image_78 (by decide) rfl ?_
    exact g_sub (lv' := [(0, .ref 72), (1, .int (iI 0))]) [1, 0] rfl (h p l e s m args below meth c D cA ad X0 hr hlk)
  · have h := h.2 c1
    refine g_aload_n X 0 dX8_image_59 rfl ?_
    refine g_getF X (f := 99) dX8_image_60 lf_X8_92 rfl rfl rfl ?_
    refine g_iload_n X 1 dX8_image_63 rfl ?_
    refine g_aload_n X 0 dX8_image_64 rfl ?_
    refine g_getF X (f := 78) dX8_image_65 lf_X8_28 rfl rfl rfl ?_
    refine g_iload_n X 1 dX8_image_68 rfl ?_
    obtain ⟨q2, h⟩ := h
    refine g_iald X dX8_image_69 rfl q2.1 q2.2 ?_
    refine g_iast X dX8_image_70 rfl q2.1 q2.2 ?_
    refine g_iinc X (x := v1) (lv' := [(1, .int (iI (v1 + 1))), (0, .ref 72)]) 1 dX8_image_71 rfl (by decide) rfl ?_
    refine g_goto X (tgt := 53) dX8_image_74 (by decide) ?_
    exact g_sub (lv' := [(0, .ref 72), (1, .int (iI (v1 + 1)))]) [1, 0] rfl (h p l e s m args below meth c D cA ad X0 hr hlk)
theorem bX8_image_79 {v1 : Int} {σ : ASt} {Q : Int → ASt → Prop} (h32v1 : i32 v1) (h : ((300 ≤ v1 → EvI K_X8_full [.ref 72] (sI σ 72 33 1) (fun x3 s2 => Q x3 s2)) ∧ (v1 < 300 → ((0 : Int) ≤ v1 ∧ v1 < 300) ∧ Wx K_X8_image (QI Q) 79 [(0, .ref 72), (1, .int (iI (v1 + 1)))] [] (sI σ 100 v1 (gI σ 79 v1))))) : Wx K_X8_image (QI Q) 79 [(0, .ref 72), (1, .int (iI v1))] [] σ := by
  intro p l e s m args below meth c D cA ad X0 hr hlk
  have X : Cx p s m args c (adA ad) D cA ad RX8 cX8_image 2 := X0
  refine g_iload_n X 1 dX8_image_79 rfl ?_
  refine g_sipush X dX8_image_80 (by decide +kernel) ?_
  refine g_icmp_ge X (tgt := 104) dX8_image_83 (by decide) h32v1 (by omega) (fun c1 => ?_) (fun c1 => ?_)
  · have h := h.1 c1
    refine g_aload_n X 0 dX8_image_104 rfl ?_
    refine g_iconst X dX8_image_105 ?_
    refine g_putZ X (j := 33) (z := 33) dX8_image_106 lp_X8_257 rfl rfl rfl rfl rfl ?_
    refine g_aload_n X 0 dX8_image_109 rfl ?_
    refine g_cVI X (K := K_X8_full) [] [] dX8_image_110 lv_X8_261 rm_X8_image_X8_full ⟨by decide, by decide⟩ adA_id rfl rfl rfl (Nat.le_of_ble_eq_true rfl) rfl h (fun x3 s2 q4 h => ?_)
    exact g_iret X hr hlk dX8_image_113 rfl ⟨_, rfl, q4, h⟩
  · have h := h.2 c1
    refine g_aload_n X 0 dX8_image_86 rfl ?_
    refine g_getF X (f := 100) dX8_image_87 lf_X8_95 rfl rfl rfl ?_
    refine g_iload_n X 1 dX8_image_90 rfl ?_
    refine g_aload_n X 0 dX8_image_91 rfl ?_
    refine g_getF X (f := 79) dX8_image_92 lf_X8_31 rfl rfl rfl ?_
    refine g_iload_n X 1 dX8_image_95 rfl ?_
    obtain ⟨q5, h⟩ := h
    refine g_iald X dX8_image_96 rfl q5.1 q5.2 ?_
    refine g_iast X dX8_image_97 rfl q5.1 q5.2 ?_
    refine g_iinc X (x := v1) (lv' := [(1, .int (iI (v1 + 1))), (0, .ref 72)]) 1 dX8_image_98 rfl (by decide) rfl ?_
    refine g_goto X (tgt := 79) dX8_image_101 (by decide) ?_
    exact g_sub (lv' := [(0, .ref 72), (1, .int (iI (v1 + 1)))]) [1, 0] rfl (h p l e s m args below meth c D cA ad X0 hr hlk)
theorem bX8_isFigure_0 {σ : ASt} {QT QF : ASt → Prop}  (h : i32 ((gI σ 72 24)) ∧ i32 ((gI σ 72 23)) ∧ (((gI σ 72 23) ≤ (gI σ 72 24) → QF σ) ∧ ((gI σ 72 24) < (gI σ 72 23) → ((0 : Int) ≤ (gI σ 72 24) ∧ (gI σ 72 24) < 80) ∧ i32 ((gI σ 92 (gI σ 72 24))) ∧ EvZ K_X8_in [.long (lI (gI σ 92 (gI σ 72 24))), .long (lI 48), .long (lI 57)] σ (fun s6 => QT s6) (fun s6 => QF s6)))) : Wx K_X8_isFigure (QZ QT QF) 0 [(0, .ref 72)] [] σ := by
  intro p l e s m args below meth c D cA ad X0 hr hlk
  have X : Cx p s m args c (adA ad) D cA ad RX8 cX8_isFigure 1 := X0
  refine g_aload_n X 0 dX8_isFigure_0 rfl ?_
  refine g_getI X (z := 24) dX8_isFigure_1 lf_X8_237 rfl rfl rfl ?_
  refine g_aload_n X 0 dX8_isFigure_4 rfl ?_
  refine g_getI X (z := 23) dX8_isFigure_5 lf_X8_234 rfl rfl rfl ?_
  obtain ⟨q1, h⟩ := h
  obtain ⟨q2, h⟩ := h
  refine g_icmp_ge X (tgt := 37) dX8_isFigure_8 (by decide) q1 q2 (fun c3 => ?_) (fun c3 => ?_)
  · have h := h.1 c3
    refine g_iconst X dX8_isFigure_37 ?_
    exact g_iret X hr hlk dX8_isFigure_38 rfl (Or.inr ⟨rfl, h⟩)
  · have h := h.2 c3
    refine g_aload_n X 0 dX8_isFigure_11 rfl ?_
    refine g_getF X (f := 92) dX8_isFigure_12 lf_X8_70 rfl rfl rfl ?_
    refine g_aload_n X 0 dX8_isFigure_15 rfl ?_
    refine g_getI X (z := 24) dX8_isFigure_16 lf_X8_237 rfl rfl rfl ?_
    obtain ⟨q4, h⟩ := h
    refine g_iald X dX8_isFigure_19 rfl q4.1 q4.2 ?_
    obtain ⟨q5, h⟩ := h
    refine g_i2l X dX8_isFigure_20 q5 ?_
    refine g_ldc2 X (z := 48) dX8_isFigure_21 lc_X8_240 (by decide +kernel) ?_
    refine g_ldc2 X (z := 57) dX8_isFigure_24 lc_X8_242 (by decide +kernel) ?_
    refine g_cSZ X (K := K_X8_in) [.long (lI (gI σ 92 (gI σ 72 24))), .long (lI 48), .long (lI 57)] [] dX8_isFigure_27 ls_X8_104 rm_X8_isFigure_X8_in ⟨by decide, by decide⟩ adA_id rfl (Nat.le_of_ble_eq_true rfl) rfl h (fun s6 h => ?_) (fun s6 h => ?_)
    · skip
      refine g_if_eq X (tgt := 37) dX8_isFigure_30 (by decide) (by omega) (fun hc => absurd hc (by decide)) (fun _ => ?_)
      refine g_iconst X dX8_isFigure_33 ?_
      refine g_goto X (tgt := 38) dX8_isFigure_34 (by decide) ?_
      exact g_iret X hr hlk dX8_isFigure_38 rfl (Or.inl ⟨rfl, h⟩)
    · skip
      refine g_if_eq X (tgt := 37) dX8_isFigure_30 (by decide) (by omega) (fun _ => ?_) (fun hc => absurd hc (by decide))
      refine g_iconst X dX8_isFigure_37 ?_
      exact g_iret X hr hlk dX8_isFigure_38 rfl (Or.inr ⟨rfl, h⟩)
theorem eX8_isFigure {σ : ASt} {QT QF : ASt → Prop}  (h : i32 ((gI σ 72 24)) ∧ i32 ((gI σ 72 23)) ∧ (((gI σ 72 23) ≤ (gI σ 72 24) → QF σ) ∧ ((gI σ 72 24) < (gI σ 72 23) → ((0 : Int) ≤ (gI σ 72 24) ∧ (gI σ 72 24) < 80) ∧ i32 ((gI σ 92 (gI σ 72 24))) ∧ EvZ K_X8_in [.long (lI (gI σ 92 (gI σ 72 24))), .long (lI 48), .long (lI 57)] σ (fun s6 => QT s6) (fun s6 => QF s6)))) : EvZ K_X8_isFigure [.ref 72] σ QT QF := Ev.of rfl (Nat.le_of_ble_eq_true rfl) rfl (bX8_isFigure_0  h)
theorem bX8_isLegal_0 {v1 : Int} {σ : ASt} {QT QF : ASt → Prop}  (h : ((0 : Int) ≤ v1 ∧ v1 < 6) ∧ Wx K_X8_isLegal (QZ QT QF) 9 [(0, .ref 72), (1, .int (iI v1)), (2, .int (iI (gI σ 78 v1))), (3, .int (iI 0))] [] σ) : Wx K_X8_isLegal (QZ QT QF) 0 [(0, .ref 72), (1, .int (iI v1))] [] σ := by
  intro p l e s m args below meth c D cA ad X0 hr hlk
  have X : Cx p s m args c (adA ad) D cA ad RX8 cX8_isLegal 5 := X0
  refine g_aload_n X 0 dX8_isLegal_0 rfl ?_
  refine g_getF X (f := 78) dX8_isLegal_1 lf_X8_28 rfl rfl rfl ?_
  refine g_iload_n X 1 dX8_isLegal_4 rfl ?_
  obtain ⟨q1, h⟩ := h
  refine g_iald X dX8_isLegal_5 rfl q1.1 q1.2 ?_
  refine g_istore_n X (lv' := [(2, .int (iI (gI σ 78 v1))), (0, .ref 72), (1, .int (iI v1))]) dX8_isLegal_6 (by decide) rfl ?_
  refine g_iconst X dX8_isLegal_7 ?_
  refine g_istore_n X (lv' := [(3, .int (iI 0)), (2, .int (iI (gI σ 78 v1))), (0, .ref 72), (1, .int (iI v1))]) dX8_isLegal_8 (by decide) rfl ?_
  exact g_sub (lv' := [(0, .ref 72), (1, .int (iI v1)), (2, .int (iI (gI σ 78 v1))), (3, .int (iI 0))]) [2, 3, 1, 0] rfl (h p l e s m args below meth c D cA ad X0 hr hlk)
theorem eX8_isLegal {v1 : Int} {σ : ASt} {QT QF : ASt → Prop}  (h : ((0 : Int) ≤ v1 ∧ v1 < 6) ∧ Wx K_X8_isLegal (QZ QT QF) 9 [(0, .ref 72), (1, .int (iI v1)), (2, .int (iI (gI σ 78 v1))), (3, .int (iI 0))] [] σ) : EvZ K_X8_isLegal [.ref 72, .int (iI v1)] σ QT QF := Ev.of rfl (Nat.le_of_ble_eq_true rfl) rfl (bX8_isLegal_0  h)
theorem bX8_isLegal_9 {v1 : Int} {v2 : Int} {v3 : Int} {σ : ASt} {QT QF : ASt → Prop} (h32v3 : i32 v3) (h : EvI K_X8_high [.ref 72, .int (iI v1)] σ (fun x2 s1 => ((x2 ≤ v3 → QT s1) ∧ (v3 < x2 → EvI K_X8_digitAt [.ref 72, .int (iI v1), .int (iI v3)] s1 (fun x6 s5 => EvI K_X8_step [.ref 72, .int (iI v2), .int (iI v3)] s5 (fun x9 s8 => ((x9 < x6 → QF s8) ∧ (x6 ≤ x9 → EvI K_X8_step [.ref 72, .int (iI v2), .int (iI v3)] s8 (fun x13 s12 => ((x6 ≠ x13 → Wx K_X8_isLegal (QZ QT QF) 9 [(0, .ref 72), (1, .int (iI v1)), (2, .int (iI v2)), (3, .int (iI (v3 + 1)))] [] s12) ∧ (x6 = x13 → ((v3 ≤ 0 → Wx K_X8_isLegal (QZ QT QF) 9 [(0, .ref 72), (1, .int (iI v1)), (2, .int (iI v2)), (3, .int (iI (v3 + 1)))] [] s12) ∧ (0 < v3 → EvI K_X8_digitAt [.ref 72, .int (iI v1), .int (iI (v3 - 1))] s12 (fun x18 s17 => ((x18 ≤ 0 → Wx K_X8_isLegal (QZ QT QF) 9 [(0, .ref 72), (1, .int (iI v1)), (2, .int (iI v2)), (3, .int (iI (v3 + 1)))] [] s17) ∧ (0 < x18 → QF s17)))))))))))))))) : Wx K_X8_isLegal (QZ QT QF) 9 [(0, .ref 72), (1, .int (iI v1)), (2, .int (iI v2)), (3, .int (iI v3))] [] σ := by
  intro p l e s m args below meth c D cA ad X0 hr hlk
  have X : Cx p s m args c (adA ad) D cA ad RX8 cX8_isLegal 5 := X0
  refine g_iload_n X 3 dX8_isLegal_9 rfl ?_
  refine g_aload_n X 0 dX8_isLegal_10 rfl ?_
  refine g_iload_n X 1 dX8_isLegal_11 rfl ?_
  refine g_cVI X (K := K_X8_high) [.int (iI v1)] [.int (iI v3)] dX8_isLegal_12 lv_X8_137 rm_X8_isLegal_X8_high ⟨by decide, by decide⟩ adA_id rfl rfl rfl (Nat.le_of_ble_eq_true rfl) rfl h (fun x2 s1 q3 h => ?_)
  refine g_icmp_ge X (tgt := 71) dX8_isLegal_15 (by decide) h32v3 q3 (fun c4 => ?_) (fun c4 => ?_)
  · have h := h.1 c4
    refine g_iconst X dX8_isLegal_71 ?_
    exact g_iret X hr hlk dX8_isLegal_72 rfl (Or.inl ⟨rfl, h⟩)
  · have h := h.2 c4
    refine g_aload_n X 0 dX8_isLegal_18 rfl ?_
    refine g_iload_n X 1 dX8_isLegal_19 rfl ?_
    refine g_iload_n X 3 dX8_isLegal_20 rfl ?_
    refine g_cVI X (K := K_X8_digitAt) [.int (iI v1), .int (iI v3)] [] dX8_isLegal_21 lv_X8_140 rm_X8_isLegal_X8_digitAt ⟨by decide, by decide⟩ adA_id rfl rfl rfl (Nat.le_of_ble_eq_true rfl) rfl h (fun x6 s5 q7 h => ?_)
    refine g_istore X (lv' := [(4, .int (iI x6)), (0, .ref 72), (1, .int (iI v1)), (2, .int (iI v2)), (3, .int (iI v3))]) dX8_isLegal_24 (by decide) rfl ?_
    refine g_iload X 0 dX8_isLegal_26 rfl ?_
    refine g_aload_n X 1 dX8_isLegal_28 rfl ?_
    refine g_iload_n X 3 dX8_isLegal_29 rfl ?_
    refine g_iload_n X 4 dX8_isLegal_30 rfl ?_
    refine g_cVI X (K := K_X8_step) [.int (iI v2), .int (iI v3)] [.int (iI x6)] dX8_isLegal_31 lv_X8_110 rm_X8_isLegal_X8_step ⟨by decide, by decide⟩ adA_id rfl rfl rfl (Nat.le_of_ble_eq_true rfl) rfl h (fun x9 s8 q10 h => ?_)
    refine g_icmp_gt X (tgt := 63) dX8_isLegal_34 (by decide) q7 q10 (fun c11 => ?_) (fun c11 => ?_)
    · have h := h.1 c11
      refine g_iconst X dX8_isLegal_63 ?_
      exact g_iret X hr hlk dX8_isLegal_64 rfl (Or.inr ⟨rfl, h⟩)
    · have h := h.2 c11
      refine g_iload X 0 dX8_isLegal_37 rfl ?_
      refine g_aload_n X 1 dX8_isLegal_39 rfl ?_
      refine g_iload_n X 3 dX8_isLegal_40 rfl ?_
      refine g_iload_n X 4 dX8_isLegal_41 rfl ?_
      refine g_cVI X (K := K_X8_step) [.int (iI v2), .int (iI v3)] [.int (iI x6)] dX8_isLegal_42 lv_X8_110 rm_X8_isLegal_X8_step ⟨by decide, by decide⟩ adA_id rfl rfl rfl (Nat.le_of_ble_eq_true rfl) rfl h (fun x13 s12 q14 h => ?_)
      refine g_icmp_ne X (tgt := 65) dX8_isLegal_45 (by decide) q7 q14 (fun c15 => ?_) (fun c15 => ?_)
      · have h := h.1 c15
        refine g_iinc X (x := v3) (lv' := [(3, .int (iI (v3 + 1))), (4, .int (iI x6)), (0, .ref 72), (1, .int (iI v1)), (2, .int (iI v2))]) 4 dX8_isLegal_65 rfl (by decide) rfl ?_
        refine g_goto X (tgt := 9) dX8_isLegal_68 (by decide) ?_
        exact g_sub (lv' := [(0, .ref 72), (1, .int (iI v1)), (2, .int (iI v2)), (3, .int (iI (v3 + 1)))]) [2, 3, 4, 0] rfl (h p l e s m args below meth c D cA ad X0 hr hlk)
      · have h := h.2 c15
        refine g_iload_n X 4 dX8_isLegal_48 rfl ?_
        refine g_if_le X (tgt := 65) dX8_isLegal_49 (by decide) h32v3 (fun c16 => ?_) (fun c16 => ?_)
        · have h := h.1 c16
          refine g_iinc X (x := v3) (lv' := [(3, .int (iI (v3 + 1))), (4, .int (iI x6)), (0, .ref 72), (1, .int (iI v1)), (2, .int (iI v2))]) 4 dX8_isLegal_65 rfl (by decide) rfl ?_
          refine g_goto X (tgt := 9) dX8_isLegal_68 (by decide) ?_
          exact g_sub (lv' := [(0, .ref 72), (1, .int (iI v1)), (2, .int (iI v2)), (3, .int (iI (v3 + 1)))]) [2, 3, 4, 0] rfl (h p l e s m args below meth c D cA ad X0 hr hlk)
        · have h := h.2 c16
          refine g_aload_n X 1 dX8_isLegal_52 rfl ?_
          refine g_iload_n X 2 dX8_isLegal_53 rfl ?_
          refine g_iload_n X 4 dX8_isLegal_54 rfl ?_
          refine g_iconst X dX8_isLegal_55 ?_
          refine g_isub X dX8_isLegal_56 ?_
          refine g_cVI X (K := K_X8_digitAt) [.int (iI v1), .int (iI (v3 - 1))] [] dX8_isLegal_57 lv_X8_140 rm_X8_isLegal_X8_digitAt ⟨by decide, by decide⟩ adA_id rfl rfl rfl (Nat.le_of_ble_eq_true rfl) rfl h (fun x18 s17 q19 h => ?_)
          refine g_if_le X (tgt := 65) dX8_isLegal_60 (by decide) q19 (fun c20 => ?_) (fun c20 => ?_)
          · have h := h.1 c20
            refine g_iinc X (x := v3) (lv' := [(3, .int (iI (v3 + 1))), (4, .int (iI x6)), (0, .ref 72), (1, .int (iI v1)), (2, .int (iI v2))]) 4 dX8_isLegal_65 rfl (by decide) rfl ?_
            refine g_goto X (tgt := 9) dX8_isLegal_68 (by decide) ?_
            exact g_sub (lv' := [(0, .ref 72), (1, .int (iI v1)), (2, .int (iI v2)), (3, .int (iI (v3 + 1)))]) [2, 3, 4, 0] rfl (h p l e s m args below meth c D cA ad X0 hr hlk)
          · have h := h.2 c20
            refine g_iconst X dX8_isLegal_63 ?_
            exact g_iret X hr hlk dX8_isLegal_64 rfl (Or.inr ⟨rfl, h⟩)
theorem bX8_kind_0 {v1 : Int} {σ : ASt} {Q : Int → ASt → Prop}  (h : Wx K_X8_kind (QI Q) 2 [(0, .ref 72), (1, .int (iI v1)), (2, .int (iI 1))] [] σ) : Wx K_X8_kind (QI Q) 0 [(0, .ref 72), (1, .int (iI v1))] [] σ := by
  intro p l e s m args below meth c D cA ad X0 hr hlk
  have X : Cx p s m args c (adA ad) D cA ad RX8 cX8_kind 3 := X0
  refine g_iconst X dX8_kind_0 ?_
  refine g_istore_n X (lv' := [(2, .int (iI 1)), (0, .ref 72), (1, .int (iI v1))]) dX8_kind_1 (by decide) rfl ?_
  exact g_sub (lv' := [(0, .ref 72), (1, .int (iI v1)), (2, .int (iI 1))]) [1, 2, 0] rfl (h p l e s m args below meth c D cA ad X0 hr hlk)
theorem eX8_kind {v1 : Int} {σ : ASt} {Q : Int → ASt → Prop}  (h : Wx K_X8_kind (QI Q) 2 [(0, .ref 72), (1, .int (iI v1)), (2, .int (iI 1))] [] σ) : EvI K_X8_kind [.ref 72, .int (iI v1)] σ Q := Ev.of rfl (Nat.le_of_ble_eq_true rfl) rfl (bX8_kind_0  h)
theorem bX8_kind_2 {v1 : Int} {v2 : Int} {σ : ASt} {Q : Int → ASt → Prop} (h32v2 : i32 v2) (h : ((0 : Int) ≤ v1 ∧ v1 < 3) ∧ i32 ((gI σ 74 v1)) ∧ (((gI σ 74 v1) ≤ v2 → EvI K_X8_step [.ref 72, .int (iI v1), .int (iI 0)] σ (fun x5 s4 => ((x5 ≠ 1 → EvI K_X8_step [.ref 72, .int (iI v1), .int (iI 0)] s4 (fun x9 s8 => ((x9 ≠ 2 → Q 1 s8) ∧ (x9 = 2 → Q 3 s8)))) ∧ (x5 = 1 → Q 2 s4)))) ∧ (v2 < (gI σ 74 v1) → EvI K_X8_step [.ref 72, .int (iI v1), .int (iI v2)] σ (fun x13 s12 => EvI K_X8_step [.ref 72, .int (iI v1), .int (iI 0)] s12 (fun x16 s15 => ((x13 = x16 → Wx K_X8_kind (QI Q) 2 [(0, .ref 72), (1, .int (iI v1)), (2, .int (iI (v2 + 1)))] [] s15) ∧ (x13 ≠ x16 → Q 0 s15))))))) : Wx K_X8_kind (QI Q) 2 [(0, .ref 72), (1, .int (iI v1)), (2, .int (iI v2))] [] σ := by
  intro p l e s m args below meth c D cA ad X0 hr hlk
  have X : Cx p s m args c (adA ad) D cA ad RX8 cX8_kind 3 := X0
  refine g_iload_n X 2 dX8_kind_2 rfl ?_
  refine g_aload_n X 0 dX8_kind_3 rfl ?_
  refine g_getF X (f := 74) dX8_kind_4 lf_X8_15 rfl rfl rfl ?_
  refine g_iload_n X 1 dX8_kind_7 rfl ?_
  obtain ⟨q1, h⟩ := h
  refine g_iald X dX8_kind_8 rfl q1.1 q1.2 ?_
  obtain ⟨q2, h⟩ := h
  refine g_icmp_ge X (tgt := 35) dX8_kind_9 (by decide) h32v2 q2 (fun c3 => ?_) (fun c3 => ?_)
  · have h := h.1 c3
    refine g_aload_n X 0 dX8_kind_35 rfl ?_
    refine g_iload_n X 1 dX8_kind_36 rfl ?_
    refine g_iconst X dX8_kind_37 ?_
    refine g_cVI X (K := K_X8_step) [.int (iI v1), .int (iI 0)] [] dX8_kind_38 lv_X8_110 rm_X8_kind_X8_step ⟨by decide, by decide⟩ adA_id rfl rfl rfl (Nat.le_of_ble_eq_true rfl) rfl h (fun x5 s4 q6 h => ?_)
    refine g_iconst X dX8_kind_41 ?_
    refine g_icmp_ne X (tgt := 49) dX8_kind_42 (by decide) q6 (by omega) (fun c7 => ?_) (fun c7 => ?_)
    · have h := h.1 c7
      refine g_aload_n X 0 dX8_kind_49 rfl ?_
      refine g_iload_n X 1 dX8_kind_50 rfl ?_
      refine g_iconst X dX8_kind_51 ?_
      refine g_cVI X (K := K_X8_step) [.int (iI v1), .int (iI 0)] [] dX8_kind_52 lv_X8_110 rm_X8_kind_X8_step ⟨by decide, by decide⟩ adA_id rfl rfl rfl (Nat.le_of_ble_eq_true rfl) rfl h (fun x9 s8 q10 h => ?_)
      refine g_iconst X dX8_kind_55 ?_
      refine g_icmp_ne X (tgt := 63) dX8_kind_56 (by decide) q10 (by omega) (fun c11 => ?_) (fun c11 => ?_)
      · have h := h.1 c11
        refine g_iconst X dX8_kind_63 ?_
        exact g_iret X hr hlk dX8_kind_64 rfl ⟨_, rfl, (by omega), h⟩
      · have h := h.2 c11
        refine g_iconst X dX8_kind_59 ?_
        refine g_goto X (tgt := 64) dX8_kind_60 (by decide) ?_
        exact g_iret X hr hlk dX8_kind_64 rfl ⟨_, rfl, (by omega), h⟩
    · have h := h.2 c7
      refine g_iconst X dX8_kind_45 ?_
      refine g_goto X (tgt := 64) dX8_kind_46 (by decide) ?_
      exact g_iret X hr hlk dX8_kind_64 rfl ⟨_, rfl, (by omega), h⟩
  · have h := h.2 c3
    refine g_aload_n X 0 dX8_kind_12 rfl ?_
    refine g_iload_n X 1 dX8_kind_13 rfl ?_
    refine g_iload_n X 2 dX8_kind_14 rfl ?_
    refine g_cVI X (K := K_X8_step) [.int (iI v1), .int (iI v2)] [] dX8_kind_15 lv_X8_110 rm_X8_kind_X8_step ⟨by decide, by decide⟩ adA_id rfl rfl rfl (Nat.le_of_ble_eq_true rfl) rfl h (fun x13 s12 q14 h => ?_)
    refine g_aload_n X 0 dX8_kind_18 rfl ?_
    refine g_iload_n X 1 dX8_kind_19 rfl ?_
    refine g_iconst X dX8_kind_20 ?_
    refine g_cVI X (K := K_X8_step) [.int (iI v1), .int (iI 0)] [.int (iI x13)] dX8_kind_21 lv_X8_110 rm_X8_kind_X8_step ⟨by decide, by decide⟩ adA_id rfl rfl rfl (Nat.le_of_ble_eq_true rfl) rfl h (fun x16 s15 q17 h => ?_)
    refine g_icmp_eq X (tgt := 29) dX8_kind_24 (by decide) q14 q17 (fun c18 => ?_) (fun c18 => ?_)
    · have h := h.1 c18
      refine g_iinc X (x := v2) (lv' := [(2, .int (iI (v2 + 1))), (0, .ref 72), (1, .int (iI v1))]) 2 dX8_kind_29 rfl (by decide) rfl ?_
      refine g_goto X (tgt := 2) dX8_kind_32 (by decide) ?_
      exact g_sub (lv' := [(0, .ref 72), (1, .int (iI v1)), (2, .int (iI (v2 + 1)))]) [1, 2, 0] rfl (h p l e s m args below meth c D cA ad X0 hr hlk)
    · have h := h.2 c18
      refine g_iconst X dX8_kind_27 ?_
      exact g_iret X hr hlk dX8_kind_28 rfl ⟨_, rfl, (by omega), h⟩
theorem bX8_lay_0 {v1 : Int} {v2 : Int} {v3 : Int} {σ : ASt} {Q : Int → ASt → Prop}  (h : EvZ K_X8_isReel [.int (iI v1)] σ (fun s1 => EvZ K_X8_isBase [.int (iI v2)] s1 (fun s2 => EvZ K_X8_isRow [.int (iI v3)] s2 (fun s3 => ((0 : Int) ≤ v3 ∧ v3 < 3) ∧ i32 ((gI s3 93 v3)) ∧ (((gI s3 93 v3) ≠ 0 → ((0 : Int) ≤ v2 ∧ v2 < 3) ∧ i32 ((gI s3 94 v3)) ∧ i32 ((gI s3 75 v2)) ∧ (((gI s3 94 v3) ≤ (gI s3 75 v2) → Wx K_X8_lay (QI Q) 57 [(0, .ref 72), (1, .int (iI v1)), (2, .int (iI v2)), (3, .int (iI v3)), (4, .int (iI 0))] [] s3) ∧ ((gI s3 75 v2) < (gI s3 94 v3) → Q (-3) s3))) ∧ ((gI s3 93 v3) = 0 → Q (-11) s3))) (fun s3 => Q (-2) s3)) (fun s2 => Q (-2) s2)) (fun s1 => Q (-2) s1)) : Wx K_X8_lay (QI Q) 0 [(0, .ref 72), (1, .int (iI v1)), (2, .int (iI v2)), (3, .int (iI v3))] [] σ := by
  intro p l e s m args below meth c D cA ad X0 hr hlk
  have X : Cx p s m args c (adA ad) D cA ad RX8 cX8_lay 5 := X0
  refine g_iload_n X 1 dX8_lay_0 rfl ?_
  refine g_cSZ X (K := K_X8_isReel) [.int (iI v1)] [] dX8_lay_1 ls_X8_149 rm_X8_lay_X8_isReel ⟨by decide, by decide⟩ adA_id rfl (Nat.le_of_ble_eq_true rfl) rfl h (fun s1 h => ?_) (fun s1 h => ?_)
  · skip
    refine g_if_eq X (tgt := 21) dX8_lay_4 (by decide) (by omega) (fun hc => absurd hc (by decide)) (fun _ => ?_)
    refine g_iload_n X 2 dX8_lay_7 rfl ?_
    refine g_cSZ X (K := K_X8_isBase) [.int (iI v2)] [] dX8_lay_8 ls_X8_114 rm_X8_lay_X8_isBase ⟨by decide, by decide⟩ adA_id rfl (Nat.le_of_ble_eq_true rfl) rfl h (fun s2 h => ?_) (fun s2 h => ?_)
    · skip
      refine g_if_eq X (tgt := 21) dX8_lay_11 (by decide) (by omega) (fun hc => absurd hc (by decide)) (fun _ => ?_)
      refine g_iload_n X 3 dX8_lay_14 rfl ?_
      refine g_cSZ X (K := K_X8_isRow) [.int (iI v3)] [] dX8_lay_15 ls_X8_251 rm_X8_lay_X8_isRow ⟨by decide, by decide⟩ adA_id rfl (Nat.le_of_ble_eq_true rfl) rfl h (fun s3 h => ?_) (fun s3 h => ?_)
      · skip
        refine g_if_ne X (tgt := 24) dX8_lay_18 (by decide) (by omega) (fun _ => ?_) (fun hc => absurd hc (by decide))
        refine g_aload_n X 0 dX8_lay_24 rfl ?_
        refine g_getF X (f := 93) dX8_lay_25 lf_X8_73 rfl rfl rfl ?_
        refine g_iload_n X 3 dX8_lay_28 rfl ?_
        obtain ⟨q4, h⟩ := h
        refine g_zald X dX8_lay_29 rfl q4.1 q4.2 ?_
        obtain ⟨q5, h⟩ := h
        refine g_if_ne X (tgt := 36) dX8_lay_30 (by decide) q5 (fun c6 => ?_) (fun c6 => ?_)
        · have h := h.1 c6
          refine g_aload_n X 0 dX8_lay_36 rfl ?_
          refine g_getF X (f := 94) dX8_lay_37 lf_X8_77 rfl rfl rfl ?_
          refine g_iload_n X 3 dX8_lay_40 rfl ?_
          refine g_iald X dX8_lay_41 rfl q4.1 q4.2 ?_
          refine g_aload_n X 0 dX8_lay_42 rfl ?_
          refine g_getF X (f := 75) dX8_lay_43 lf_X8_18 rfl rfl rfl ?_
          refine g_iload_n X 2 dX8_lay_46 rfl ?_
          obtain ⟨q7, h⟩ := h
          refine g_iald X dX8_lay_47 rfl q7.1 q7.2 ?_
          obtain ⟨q8, h⟩ := h
          obtain ⟨q9, h⟩ := h
          refine g_icmp_le X (tgt := 54) dX8_lay_48 (by decide) q8 q9 (fun c10 => ?_) (fun c10 => ?_)
          · have h := h.1 c10
            refine g_iconst X dX8_lay_54 ?_
            refine g_istore X (lv' := [(4, .int (iI 0)), (0, .ref 72), (1, .int (iI v1)), (2, .int (iI v2)), (3, .int (iI v3))]) dX8_lay_55 (by decide) rfl ?_
            exact g_sub (lv' := [(0, .ref 72), (1, .int (iI v1)), (2, .int (iI v2)), (3, .int (iI v3)), (4, .int (iI 0))]) [1, 2, 3, 4, 0] rfl (h p l e s m args below meth c D cA ad X0 hr hlk)
          · have h := h.2 c10
            refine g_bipush X dX8_lay_51 (by decide +kernel) ?_
            exact g_iret X hr hlk dX8_lay_53 rfl ⟨_, rfl, (by omega), h⟩
        · have h := h.2 c6
          refine g_bipush X dX8_lay_33 (by decide +kernel) ?_
          exact g_iret X hr hlk dX8_lay_35 rfl ⟨_, rfl, (by omega), h⟩
      · skip
        refine g_if_ne X (tgt := 24) dX8_lay_18 (by decide) (by omega) (fun hc => absurd hc (by decide)) (fun _ => ?_)
        refine g_bipush X dX8_lay_21 (by decide +kernel) ?_
        exact g_iret X hr hlk dX8_lay_23 rfl ⟨_, rfl, (by omega), h⟩
    · skip
      refine g_if_eq X (tgt := 21) dX8_lay_11 (by decide) (by omega) (fun _ => ?_) (fun hc => absurd hc (by decide))
      refine g_bipush X dX8_lay_21 (by decide +kernel) ?_
      exact g_iret X hr hlk dX8_lay_23 rfl ⟨_, rfl, (by omega), h⟩
  · skip
    refine g_if_eq X (tgt := 21) dX8_lay_4 (by decide) (by omega) (fun _ => ?_) (fun hc => absurd hc (by decide))
    refine g_bipush X dX8_lay_21 (by decide +kernel) ?_
    exact g_iret X hr hlk dX8_lay_23 rfl ⟨_, rfl, (by omega), h⟩
theorem eX8_lay {v1 : Int} {v2 : Int} {v3 : Int} {σ : ASt} {Q : Int → ASt → Prop}  (h : EvZ K_X8_isReel [.int (iI v1)] σ (fun s1 => EvZ K_X8_isBase [.int (iI v2)] s1 (fun s2 => EvZ K_X8_isRow [.int (iI v3)] s2 (fun s3 => ((0 : Int) ≤ v3 ∧ v3 < 3) ∧ i32 ((gI s3 93 v3)) ∧ (((gI s3 93 v3) ≠ 0 → ((0 : Int) ≤ v2 ∧ v2 < 3) ∧ i32 ((gI s3 94 v3)) ∧ i32 ((gI s3 75 v2)) ∧ (((gI s3 94 v3) ≤ (gI s3 75 v2) → Wx K_X8_lay (QI Q) 57 [(0, .ref 72), (1, .int (iI v1)), (2, .int (iI v2)), (3, .int (iI v3)), (4, .int (iI 0))] [] s3) ∧ ((gI s3 75 v2) < (gI s3 94 v3) → Q (-3) s3))) ∧ ((gI s3 93 v3) = 0 → Q (-11) s3))) (fun s3 => Q (-2) s3)) (fun s2 => Q (-2) s2)) (fun s1 => Q (-2) s1)) : EvI K_X8_lay [.ref 72, .int (iI v1), .int (iI v2), .int (iI v3)] σ Q := Ev.of rfl (Nat.le_of_ble_eq_true rfl) rfl (bX8_lay_0  h)
theorem bX8_lay_57 {v1 : Int} {v2 : Int} {v3 : Int} {v4 : Int} {σ : ASt} {Q : Int → ASt → Prop} (h32v4 : i32 v4) (h : ((0 : Int) ≤ v3 ∧ v3 < 3) ∧ i32 ((gI σ 94 v3)) ∧ (((gI σ 94 v3) ≤ v4 → Wx K_X8_lay (QI Q) 102 [(0, .ref 72), (1, .int (iI v1)), (2, .int (iI v2)), (3, .int (iI v3)), (4, .int (iI 0))] [] σ) ∧ (v4 < (gI σ 94 v3) → ((0 : Int) ≤ ((60 * v3) + v4) ∧ ((60 * v3) + v4) < 180) ∧ EvZ K_X8_in [.long (lI (gL σ 95 ((60 * v3) + v4))), .long (lI 0), .long (lI 99)] σ (fun s5 => Wx K_X8_lay (QI Q) 57 [(0, .ref 72), (1, .int (iI v1)), (2, .int (iI v2)), (3, .int (iI v3)), (4, .int (iI (v4 + 1)))] [] s5) (fun s5 => Q (-3) s5)))) : Wx K_X8_lay (QI Q) 57 [(0, .ref 72), (1, .int (iI v1)), (2, .int (iI v2)), (3, .int (iI v3)), (4, .int (iI v4))] [] σ := by
  intro p l e s m args below meth c D cA ad X0 hr hlk
  have X : Cx p s m args c (adA ad) D cA ad RX8 cX8_lay 5 := X0
  refine g_iload X 4 dX8_lay_57 rfl ?_
  refine g_aload_n X 0 dX8_lay_59 rfl ?_
  refine g_getF X (f := 94) dX8_lay_60 lf_X8_77 rfl rfl rfl ?_
  refine g_iload_n X 3 dX8_lay_63 rfl ?_
  obtain ⟨q1, h⟩ := h
  refine g_iald X dX8_lay_64 rfl q1.1 q1.2 ?_
  obtain ⟨q2, h⟩ := h
  refine g_icmp_ge X (tgt := 99) dX8_lay_65 (by decide) h32v4 q2 (fun c3 => ?_) (fun c3 => ?_)
  · have h := h.1 c3
    refine g_iconst X dX8_lay_99 ?_
    refine g_istore X (lv' := [(4, .int (iI 0)), (0, .ref 72), (1, .int (iI v1)), (2, .int (iI v2)), (3, .int (iI v3))]) dX8_lay_100 (by decide) rfl ?_
    exact g_sub (lv' := [(0, .ref 72), (1, .int (iI v1)), (2, .int (iI v2)), (3, .int (iI v3)), (4, .int (iI 0))]) [1, 2, 3, 4, 0] rfl (h p l e s m args below meth c D cA ad X0 hr hlk)
  · have h := h.2 c3
    refine g_aload_n X 0 dX8_lay_68 rfl ?_
    refine g_getF X (f := 95) dX8_lay_69 lf_X8_80 rfl rfl rfl ?_
    refine g_bipush X dX8_lay_72 (by decide +kernel) ?_
    refine g_iload_n X 3 dX8_lay_74 rfl ?_
    refine g_imul X dX8_lay_75 ?_
    refine g_iload X 4 dX8_lay_76 rfl ?_
    refine g_iadd X dX8_lay_78 ?_
    obtain ⟨q4, h⟩ := h
    refine g_lald X dX8_lay_79 rfl q4.1 q4.2 ?_
    refine g_lconst X (z := 0) dX8_lay_80 (by decide +kernel) ?_
    refine g_ldc2 X (z := 99) dX8_lay_81 lc_X8_186 (by decide +kernel) ?_
    refine g_cSZ X (K := K_X8_in) [.long (lI (gL σ 95 ((60 * v3) + v4))), .long (lI 0), .long (lI 99)] [] dX8_lay_84 ls_X8_104 rm_X8_lay_X8_in ⟨by decide, by decide⟩ adA_id rfl (Nat.le_of_ble_eq_true rfl) rfl h (fun s5 h => ?_) (fun s5 h => ?_)
    · skip
      refine g_if_ne X (tgt := 93) dX8_lay_87 (by decide) (by omega) (fun _ => ?_) (fun hc => absurd hc (by decide))
      refine g_iinc X (x := v4) (lv' := [(4, .int (iI (v4 + 1))), (0, .ref 72), (1, .int (iI v1)), (2, .int (iI v2)), (3, .int (iI v3))]) 4 dX8_lay_93 rfl (by decide) rfl ?_
      refine g_goto X (tgt := 57) dX8_lay_96 (by decide) ?_
      exact g_sub (lv' := [(0, .ref 72), (1, .int (iI v1)), (2, .int (iI v2)), (3, .int (iI v3)), (4, .int (iI (v4 + 1)))]) [1, 2, 3, 4, 0] rfl (h p l e s m args below meth c D cA ad X0 hr hlk)
    · skip
      refine g_if_ne X (tgt := 93) dX8_lay_87 (by decide) (by omega) (fun hc => absurd hc (by decide)) (fun _ => ?_)
      refine g_bipush X dX8_lay_90 (by decide +kernel) ?_
      exact g_iret X hr hlk dX8_lay_92 rfl ⟨_, rfl, (by omega), h⟩
theorem bX8_lay_102 {v1 : Int} {v2 : Int} {v3 : Int} {v4 : Int} {σ : ASt} {Q : Int → ASt → Prop} (h32v4 : i32 v4) (h : ((0 : Int) ≤ v2 ∧ v2 < 3) ∧ i32 ((gI σ 75 v2)) ∧ (((gI σ 75 v2) ≤ v4 → EvI K_X8_holds [.ref 72, .int (iI v1), .int (iI v2)] σ (fun x5 s4 => Q x5 s4)) ∧ (v4 < (gI σ 75 v2) → ((0 : Int) ≤ v3 ∧ v3 < 3) ∧ i32 ((gI σ 94 v3)) ∧ (((gI σ 94 v3) ≤ v4 → ((0 : Int) ≤ v4 ∧ v4 < 50) ∧ Wx K_X8_lay (QI Q) 102 [(0, .ref 72), (1, .int (iI v1)), (2, .int (iI v2)), (3, .int (iI v3)), (4, .int (iI (v4 + 1)))] [] (sI σ 80 v4 0)) ∧ (v4 < (gI σ 94 v3) → ((0 : Int) ≤ ((60 * v3) + v4) ∧ ((60 * v3) + v4) < 180) ∧ ((0 : Int) ≤ v4 ∧ v4 < 50) ∧ Wx K_X8_lay (QI Q) 102 [(0, .ref 72), (1, .int (iI v1)), (2, .int (iI v2)), (3, .int (iI v3)), (4, .int (iI (v4 + 1)))] [] (sI σ 80 v4 (gL σ 95 ((60 * v3) + v4)))))))) : Wx K_X8_lay (QI Q) 102 [(0, .ref 72), (1, .int (iI v1)), (2, .int (iI v2)), (3, .int (iI v3)), (4, .int (iI v4))] [] σ := by
  intro p l e s m args below meth c D cA ad X0 hr hlk
  have X : Cx p s m args c (adA ad) D cA ad RX8 cX8_lay 5 := X0
  refine g_iload X 4 dX8_lay_102 rfl ?_
  refine g_aload_n X 0 dX8_lay_104 rfl ?_
  refine g_getF X (f := 75) dX8_lay_105 lf_X8_18 rfl rfl rfl ?_
  refine g_iload_n X 2 dX8_lay_108 rfl ?_
  obtain ⟨q1, h⟩ := h
  refine g_iald X dX8_lay_109 rfl q1.1 q1.2 ?_
  obtain ⟨q2, h⟩ := h
  refine g_icmp_ge X (tgt := 154) dX8_lay_110 (by decide) h32v4 q2 (fun c3 => ?_) (fun c3 => ?_)
  · have h := h.1 c3
    refine g_aload_n X 0 dX8_lay_154 rfl ?_
    refine g_iload_n X 1 dX8_lay_155 rfl ?_
    refine g_iload_n X 2 dX8_lay_156 rfl ?_
    refine g_cVI X (K := K_X8_holds) [.int (iI v1), .int (iI v2)] [] dX8_lay_157 lv_X8_156 rm_X8_lay_X8_holds ⟨by decide, by decide⟩ adA_id rfl rfl rfl (Nat.le_of_ble_eq_true rfl) rfl h (fun x5 s4 q6 h => ?_)
    exact g_iret X hr hlk dX8_lay_160 rfl ⟨_, rfl, q6, h⟩
  · have h := h.2 c3
    refine g_aload_n X 0 dX8_lay_113 rfl ?_
    refine g_getF X (f := 80) dX8_lay_114 lf_X8_34 rfl rfl rfl ?_
    refine g_iload X 4 dX8_lay_117 rfl ?_
    refine g_iload X 4 dX8_lay_119 rfl ?_
    refine g_aload_n X 0 dX8_lay_121 rfl ?_
    refine g_getF X (f := 94) dX8_lay_122 lf_X8_77 rfl rfl rfl ?_
    refine g_iload_n X 3 dX8_lay_125 rfl ?_
    obtain ⟨q7, h⟩ := h
    refine g_iald X dX8_lay_126 rfl q7.1 q7.2 ?_
    obtain ⟨q8, h⟩ := h
    refine g_icmp_ge X (tgt := 146) dX8_lay_127 (by decide) h32v4 q8 (fun c9 => ?_) (fun c9 => ?_)
    · have h := h.1 c9
      refine g_iconst X dX8_lay_146 ?_
      obtain ⟨q10, h⟩ := h
      refine g_iast X dX8_lay_147 rfl q10.1 q10.2 ?_
      refine g_iinc X (x := v4) (lv' := [(4, .int (iI (v4 + 1))), (0, .ref 72), (1, .int (iI v1)), (2, .int (iI v2)), (3, .int (iI v3))]) 4 dX8_lay_148 rfl (by decide) rfl ?_
      refine g_goto X (tgt := 102) dX8_lay_151 (by decide) ?_
      exact g_sub (lv' := [(0, .ref 72), (1, .int (iI v1)), (2, .int (iI v2)), (3, .int (iI v3)), (4, .int (iI (v4 + 1)))]) [1, 2, 3, 4, 0] rfl (h p l e s m args below meth c D cA ad X0 hr hlk)
    · have h := h.2 c9
      refine g_aload_n X 0 dX8_lay_130 rfl ?_
      refine g_getF X (f := 95) dX8_lay_131 lf_X8_80 rfl rfl rfl ?_
      refine g_bipush X dX8_lay_134 (by decide +kernel) ?_
      refine g_iload_n X 3 dX8_lay_136 rfl ?_
      refine g_imul X dX8_lay_137 ?_
      refine g_iload X 4 dX8_lay_138 rfl ?_
      refine g_iadd X dX8_lay_140 ?_
      obtain ⟨q11, h⟩ := h
      refine g_lald X dX8_lay_141 rfl q11.1 q11.2 ?_
      refine g_l2i X dX8_lay_142 ?_
      refine g_goto X (tgt := 147) dX8_lay_143 (by decide) ?_
      obtain ⟨q12, h⟩ := h
      refine g_iast X dX8_lay_147 rfl q12.1 q12.2 ?_
      refine g_iinc X (x := v4) (lv' := [(4, .int (iI (v4 + 1))), (0, .ref 72), (1, .int (iI v1)), (2, .int (iI v2)), (3, .int (iI v3))]) 4 dX8_lay_148 rfl (by decide) rfl ?_
      refine g_goto X (tgt := 102) dX8_lay_151 (by decide) ?_
      exact g_sub (lv' := [(0, .ref 72), (1, .int (iI v1)), (2, .int (iI v2)), (3, .int (iI v3)), (4, .int (iI (v4 + 1)))]) [1, 2, 3, 4, 0] rfl (h p l e s m args below meth c D cA ad X0 hr hlk)
theorem bX8_leaves_0 {v1 : Int} {v3 : Int} {v5 : Int} {σ : ASt} {Q : ASt → Prop}  (h : Wx K_X8_leaves (QV Q) 12 [(0, .ref 72), (1, .long (lI v1)), (3, .long (lI v3)), (5, .int (iI v5)), (6, .int (iI ((v1 * 7919) % 16384)))] [] σ) : Wx K_X8_leaves (QV Q) 0 [(0, .ref 72), (1, .long (lI v1)), (3, .long (lI v3)), (5, .int (iI v5))] [] σ := by
  intro p l e s m args below meth c D cA ad X0 hr hlk
  have X : Cx p s m args c (adA ad) D cA ad RX8 cX8_leaves 8 := X0
  refine g_lload_n X 1 dX8_leaves_0 rfl ?_
  refine g_ldc2 X (z := 7919) dX8_leaves_1 lc_X8_215 (by decide +kernel) ?_
  refine g_lmul X dX8_leaves_4 ?_
  refine g_ldc2 X (z := 16383) dX8_leaves_5 lc_X8_217 (by decide +kernel) ?_
  refine g_land14 X dX8_leaves_8 ?_
  refine g_l2i X dX8_leaves_9 ?_
  refine g_istore X (lv' := [(6, .int (iI ((v1 * 7919) % 16384))), (0, .ref 72), (1, .long (lI v1)), (3, .long (lI v3)), (5, .int (iI v5))]) dX8_leaves_10 (by decide) rfl ?_
  exact g_sub (lv' := [(0, .ref 72), (1, .long (lI v1)), (3, .long (lI v3)), (5, .int (iI v5)), (6, .int (iI ((v1 * 7919) % 16384)))]) [1, 2, 3, 4, 0] rfl (h p l e s m args below meth c D cA ad X0 hr hlk)
theorem eX8_leaves {v1 : Int} {v3 : Int} {v5 : Int} {σ : ASt} {Q : ASt → Prop}  (h : Wx K_X8_leaves (QV Q) 12 [(0, .ref 72), (1, .long (lI v1)), (3, .long (lI v3)), (5, .int (iI v5)), (6, .int (iI ((v1 * 7919) % 16384)))] [] σ) : EvV K_X8_leaves [.ref 72, .long (lI v1), .long (lI v3), .int (iI v5)] σ Q := Ev.of rfl (Nat.le_of_ble_eq_true rfl) rfl (bX8_leaves_0  h)
theorem bX8_leaves_12 {v1 : Int} {v3 : Int} {v5 : Int} {v6 : Int} {σ : ASt} {Q : ASt → Prop} (h32v5 : i32 v5) (h64v1 : i64 v1) (h : ((0 : Int) ≤ v6 ∧ v6 < 16384) ∧ i32 ((gI σ 86 v6)) ∧ (((gI σ 86 v6) ≤ 0 → (((gI σ 86 v6) ≠ 0 → ((0 : Int) ≤ ((gI σ 86 v6) - 1) ∧ ((gI σ 86 v6) - 1) < 16384) ∧ i32 ((gI (sL σ 88 ((gI σ 86 v6) - 1) ((gL σ 88 ((gI σ 86 v6) - 1)) + v3)) 89 ((gI σ 86 v6) - 1))) ∧ (((gI (sL σ 88 ((gI σ 86 v6) - 1) ((gL σ 88 ((gI σ 86 v6) - 1)) + v3)) 89 ((gI σ 86 v6) - 1)) ≤ v5 → Q (sI (sL σ 88 ((gI σ 86 v6) - 1) ((gL σ 88 ((gI σ 86 v6) - 1)) + v3)) 89 ((gI σ 86 v6) - 1) (gI (sL σ 88 ((gI σ 86 v6) - 1) ((gL σ 88 ((gI σ 86 v6) - 1)) + v3)) 89 ((gI σ 86 v6) - 1)))) ∧ (v5 < (gI (sL σ 88 ((gI σ 86 v6) - 1) ((gL σ 88 ((gI σ 86 v6) - 1)) + v3)) 89 ((gI σ 86 v6) - 1)) → Q (sI (sL σ 88 ((gI σ 86 v6) - 1) ((gL σ 88 ((gI σ 86 v6) - 1)) + v3)) 89 ((gI σ 86 v6) - 1) v5)))) ∧ ((gI σ 86 v6) = 0 → ((0 : Int) ≤ (gI σ 72 19) ∧ (gI σ 72 19) < 16384) ∧ ((0 : Int) ≤ (gI (sL σ 87 (gI σ 72 19) v1) 72 19) ∧ (gI (sL σ 87 (gI σ 72 19) v1) 72 19) < 16384) ∧ ((0 : Int) ≤ (gI (sL (sL σ 87 (gI σ 72 19) v1) 88 (gI (sL σ 87 (gI σ 72 19) v1) 72 19) 0) 72 19) ∧ (gI (sL (sL σ 87 (gI σ 72 19) v1) 88 (gI (sL σ 87 (gI σ 72 19) v1) 72 19) 0) 72 19) < 16384) ∧ ((0 : Int) ≤ ((gI (sI (sI (sI (sL (sL σ 87 (gI σ 72 19) v1) 88 (gI (sL σ 87 (gI σ 72 19) v1) 72 19) 0) 89 (gI (sL (sL σ 87 (gI σ 72 19) v1) 88 (gI (sL σ 87 (gI σ 72 19) v1) 72 19) 0) 72 19) v5) 72 19 ((gI (sI (sL (sL σ 87 (gI σ 72 19) v1) 88 (gI (sL σ 87 (gI σ 72 19) v1) 72 19) 0) 89 (gI (sL (sL σ 87 (gI σ 72 19) v1) 88 (gI (sL σ 87 (gI σ 72 19) v1) 72 19) 0) 72 19) v5) 72 19) + 1)) 86 v6 (gI (sI (sI (sL (sL σ 87 (gI σ 72 19) v1) 88 (gI (sL σ 87 (gI σ 72 19) v1) 72 19) 0) 89 (gI (sL (sL σ 87 (gI σ 72 19) v1) 88 (gI (sL σ 87 (gI σ 72 19) v1) 72 19) 0) 72 19) v5) 72 19 ((gI (sI (sL (sL σ 87 (gI σ 72 19) v1) 88 (gI (sL σ 87 (gI σ 72 19) v1) 72 19) 0) 89 (gI (sL (sL σ 87 (gI σ 72 19) v1) 88 (gI (sL σ 87 (gI σ 72 19) v1) 72 19) 0) 72 19) v5) 72 19) + 1)) 72 19)) 86 v6) - 1) ∧ ((gI (sI (sI (sI (sL (sL σ 87 (gI σ 72 19) v1) 88 (gI (sL σ 87 (gI σ 72 19) v1) 72 19) 0) 89 (gI (sL (sL σ 87 (gI σ 72 19) v1) 88 (gI (sL σ 87 (gI σ 72 19) v1) 72 19) 0) 72 19) v5) 72 19 ((gI (sI (sL (sL σ 87 (gI σ 72 19) v1) 88 (gI (sL σ 87 (gI σ 72 19) v1) 72 19) 0) 89 (gI (sL (sL σ 87 (gI σ 72 19) v1) 88 (gI (sL σ 87 (gI σ 72 19) v1) 72 19) 0) 72 19) v5) 72 19) + 1)) 86 v6 (gI (sI (sI (sL (sL σ 87 (gI σ 72 19) v1) 88 (gI (sL σ 87 (gI σ 72 19) v1) 72 19) 0) 89 (gI (sL (sL σ 87 (gI σ 72 19) v1) 88 (gI (sL σ 87 (gI σ 72 19) v1) 72 19) 0) 72 19) v5) 72 19 ((gI (sI (sL (sL σ 87 (gI σ 72 19) v1) 88 (gI (sL σ 87 (gI σ 72 19) v1) 72 19) 0) 89 (gI (sL (sL σ 87 (gI σ 72 19) v1) 88 (gI (sL σ 87 (gI σ 72 19) v1) 72 19) 0) 72 19) v5) 72 19) + 1)) 72 19)) 86 v6) - 1) < 16384) ∧ i32 ((gI (sL (sI (sI (sI (sL (sL σ 87 (gI σ 72 19) v1) 88 (gI (sL σ 87 (gI σ 72 19) v1) 72 19) 0) 89 (gI (sL (sL σ 87 (gI σ 72 19) v1) 88 (gI (sL σ 87 (gI σ 72 19) v1) 72 19) 0) 72 19) v5) 72 19 ((gI (sI (sL (sL σ 87 (gI σ 72 19) v1) 88 (gI (sL σ 87 (gI σ 72 19) v1) 72 19) 0) 89 (gI (sL (sL σ 87 (gI σ 72 19) v1) 88 (gI (sL σ 87 (gI σ 72 19) v1) 72 19) 0) 72 19) v5) 72 19) + 1)) 86 v6 (gI (sI (sI (sL (sL σ 87 (gI σ 72 19) v1) 88 (gI (sL σ 87 (gI σ 72 19) v1) 72 19) 0) 89 (gI (sL (sL σ 87 (gI σ 72 19) v1) 88 (gI (sL σ 87 (gI σ 72 19) v1) 72 19) 0) 72 19) v5) 72 19 ((gI (sI (sL (sL σ 87 (gI σ 72 19) v1) 88 (gI (sL σ 87 (gI σ 72 19) v1) 72 19) 0) 89 (gI (sL (sL σ 87 (gI σ 72 19) v1) 88 (gI (sL σ 87 (gI σ 72 19) v1) 72 19) 0) 72 19) v5) 72 19) + 1)) 72 19)) 88 ((gI (sI (sI (sI (sL (sL σ 87 (gI σ 72 19) v1) 88 (gI (sL σ 87 (gI σ 72 19) v1) 72 19) 0) 89 (gI (sL (sL σ 87 (gI σ 72 19) v1) 88 (gI (sL σ 87 (gI σ 72 19) v1) 72 19) 0) 72 19) v5) 72 19 ((gI (sI (sL (sL σ 87 (gI σ 72 19) v1) 88 (gI (sL σ 87 (gI σ 72 19) v1) 72 19) 0) 89 (gI (sL (sL σ 87 (gI σ 72 19) v1) 88 (gI (sL σ 87 (gI σ 72 19) v1) 72 19) 0) 72 19) v5) 72 19) + 1)) 86 v6 (gI (sI (sI (sL (sL σ 87 (gI σ 72 19) v1) 88 (gI (sL σ 87 (gI σ 72 19) v1) 72 19) 0) 89 (gI (sL (sL σ 87 (gI σ 72 19) v1) 88 (gI (sL σ 87 (gI σ 72 19) v1) 72 19) 0) 72 19) v5) 72 19 ((gI (sI (sL (sL σ 87 (gI σ 72 19) v1) 88 (gI (sL σ 87 (gI σ 72 19) v1) 72 19) 0) 89 (gI (sL (sL σ 87 (gI σ 72 19) v1) 88 (gI (sL σ 87 (gI σ 72 19) v1) 72 19) 0) 72 19) v5) 72 19) + 1)) 72 19)) 86 v6) - 1) ((gL (sI (sI (sI (sL (sL σ 87 (gI σ 72 19) v1) 88 (gI (sL σ 87 (gI σ 72 19) v1) 72 19) 0) 89 (gI (sL (sL σ 87 (gI σ 72 19) v1) 88 (gI (sL σ 87 (gI σ 72 19) v1) 72 19) 0) 72 19) v5) 72 19 ((gI (sI (sL (sL σ 87 (gI σ 72 19) v1) 88 (gI (sL σ 87 (gI σ 72 19) v1) 72 19) 0) 89 (gI (sL (sL σ 87 (gI σ 72 19) v1) 88 (gI (sL σ 87 (gI σ 72 19) v1) 72 19) 0) 72 19) v5) 72 19) + 1)) 86 v6 (gI (sI (sI (sL (sL σ 87 (gI σ 72 19) v1) 88 (gI (sL σ 87 (gI σ 72 19) v1) 72 19) 0) 89 (gI (sL (sL σ 87 (gI σ 72 19) v1) 88 (gI (sL σ 87 (gI σ 72 19) v1) 72 19) 0) 72 19) v5) 72 19 ((gI (sI (sL (sL σ 87 (gI σ 72 19) v1) 88 (gI (sL σ 87 (gI σ 72 19) v1) 72 19) 0) 89 (gI (sL (sL σ 87 (gI σ 72 19) v1) 88 (gI (sL σ 87 (gI σ 72 19) v1) 72 19) 0) 72 19) v5) 72 19) + 1)) 72 19)) 88 ((gI (sI (sI (sI (sL (sL σ 87 (gI σ 72 19) v1) 88 (gI (sL σ 87 (gI σ 72 19) v1) 72 19) 0) 89 (gI (sL (sL σ 87 (gI σ 72 19) v1) 88 (gI (sL σ 87 (gI σ 72 19) v1) 72 19) 0) 72 19) v5) 72 19 ((gI (sI (sL (sL σ 87 (gI σ 72 19) v1) 88 (gI (sL σ 87 (gI σ 72 19) v1) 72 19) 0) 89 (gI (sL (sL σ 87 (gI σ 72 19) v1) 88 (gI (sL σ 87 (gI σ 72 19) v1) 72 19) 0) 72 19) v5) 72 19) + 1)) 86 v6 (gI (sI (sI (sL (sL σ 87 (gI σ 72 19) v1) 88 (gI (sL σ 87 (gI σ 72 19) v1) 72 19) 0) 89 (gI (sL (sL σ 87 (gI σ 72 19) v1) 88 (gI (sL σ 87 (gI σ 72 19) v1) 72 19) 0) 72 19) v5) 72 19 ((gI (sI (sL (sL σ 87 (gI σ 72 19) v1) 88 (gI (sL σ 87 (gI σ 72 19) v1) 72 19) 0) 89 (gI (sL (sL σ 87 (gI σ 72 19) v1) 88 (gI (sL σ 87 (gI σ 72 19) v1) 72 19) 0) 72 19) v5) 72 19) + 1)) 72 19)) 86 v6) - 1)) + v3)) 89 ((gI (sI (sI (sI (sL (sL σ 87 (gI σ 72 19) v1) 88 (gI (sL σ 87 (gI σ 72 19) v1) 72 19) 0) 89 (gI (sL (sL σ 87 (gI σ 72 19) v1) 88 (gI (sL σ 87 (gI σ 72 19) v1) 72 19) 0) 72 19) v5) 72 19 ((gI (sI (sL (sL σ 87 (gI σ 72 19) v1) 88 (gI (sL σ 87 (gI σ 72 19) v1) 72 19) 0) 89 (gI (sL (sL σ 87 (gI σ 72 19) v1) 88 (gI (sL σ 87 (gI σ 72 19) v1) 72 19) 0) 72 19) v5) 72 19) + 1)) 86 v6 (gI (sI (sI (sL (sL σ 87 (gI σ 72 19) v1) 88 (gI (sL σ 87 (gI σ 72 19) v1) 72 19) 0) 89 (gI (sL (sL σ 87 (gI σ 72 19) v1) 88 (gI (sL σ 87 (gI σ 72 19) v1) 72 19) 0) 72 19) v5) 72 19 ((gI (sI (sL (sL σ 87 (gI σ 72 19) v1) 88 (gI (sL σ 87 (gI σ 72 19) v1) 72 19) 0) 89 (gI (sL (sL σ 87 (gI σ 72 19) v1) 88 (gI (sL σ 87 (gI σ 72 19) v1) 72 19) 0) 72 19) v5) 72 19) + 1)) 72 19)) 86 v6) - 1))) ∧ (((gI (sL (sI (sI (sI (sL (sL σ 87 (gI σ 72 19) v1) 88 (gI (sL σ 87 (gI σ 72 19) v1) 72 19) 0) 89 (gI (sL (sL σ 87 (gI σ 72 19) v1) 88 (gI (sL σ 87 (gI σ 72 19) v1) 72 19) 0) 72 19) v5) 72 19 ((gI (sI (sL (sL σ 87 (gI σ 72 19) v1) 88 (gI (sL σ 87 (gI σ 72 19) v1) 72 19) 0) 89 (gI (sL (sL σ 87 (gI σ 72 19) v1) 88 (gI (sL σ 87 (gI σ 72 19) v1) 72 19) 0) 72 19) v5) 72 19) + 1)) 86 v6 (gI (sI (sI (sL (sL σ 87 (gI σ 72 19) v1) 88 (gI (sL σ 87 (gI σ 72 19) v1) 72 19) 0) 89 (gI (sL (sL σ 87 (gI σ 72 19) v1) 88 (gI (sL σ 87 (gI σ 72 19) v1) 72 19) 0) 72 19) v5) 72 19 ((gI (sI (sL (sL σ 87 (gI σ 72 19) v1) 88 (gI (sL σ 87 (gI σ 72 19) v1) 72 19) 0) 89 (gI (sL (sL σ 87 (gI σ 72 19) v1) 88 (gI (sL σ 87 (gI σ 72 19) v1) 72 19) 0) 72 19) v5) 72 19) + 1)) 72 19)) 88 ((gI (sI (sI (sI (sL (sL σ 87 (gI σ 72 19) v1) 88 (gI (sL σ 87 (gI σ 72 19) v1) 72 19) 0) 89 (gI (sL (sL σ 87 (gI σ 72 19) v1) 88 (gI (sL σ 87 (gI σ 72 19) v1) 72 19) 0) 72 19) v5) 72 19 ((gI (sI (sL (sL σ 87 (gI σ 72 19) v1) 88 (gI (sL σ 87 (gI σ 72 19) v1) 72 19) 0) 89 (gI (sL (sL σ 87 (gI σ 72 19) v1) 88 (gI (sL σ 87 (gI σ 72 19) v1) 72 19) 0) 72 19) v5) 72 19) + 1)) 86 v6 (gI (sI (sI (sL (sL σ 87 (gI σ 72 19) v1) 88 (gI (sL σ 87 (gI σ 72 19) v1) 72 19) 0) 89 (gI (sL (sL σ 87 (gI σ 72 19) v1) 88 (gI (sL σ 87 (gI σ 72 19) v1) 72 19) 0) 72 19) v5) 72 19 ((gI (sI (sL (sL σ 87 (gI σ 72 19) v1) 88 (gI (sL σ 87 (gI σ 72 19) v1) 72 19) 0) 89 (gI (sL (sL σ 87 (gI σ 72 19) v1) 88 (gI (sL σ 87 (gI σ 72 19) v1) 72 19) 0) 72 19) v5) 72 19) + 1)) 72 19)) 86 v6) - 1) ((gL (sI (sI (sI (sL (sL σ 87 (gI σ 72 19) v1) 88 (gI (sL σ 87 (gI σ 72 19) v1) 72 19) 0) 89 (gI (sL (sL σ 87 (gI σ 72 19) v1) 88 (gI (sL σ 87 (gI σ 72 19) v1) 72 19) 0) 72 19) v5) 72 19 ((gI (sI (sL (sL σ 87 (gI σ 72 19) v1) 88 (gI (sL σ 87 (gI σ 72 19) v1) 72 19) 0) 89 (gI (sL (sL σ 87 (gI σ 72 19) v1) 88 (gI (sL σ 87 (gI σ 72 19) v1) 72 19) 0) 72 19) v5) 72 19) + 1)) 86 v6 (gI (sI (sI (sL (sL σ 87 (gI σ 72 19) v1) 88 (gI (sL σ 87 (gI σ 72 19) v1) 72 19) 0) 89 (gI (sL (sL σ 87 (gI σ 72 19) v1) 88 (gI (sL σ 87 (gI σ 72 19) v1) 72 19) 0) 72 19) v5) 72 19 ((gI (sI (sL (sL σ 87 (gI σ 72 19) v1) 88 (gI (sL σ 87 (gI σ 72 19) v1) 72 19) 0) 89 (gI (sL (sL σ 87 (gI σ 72 19) v1) 88 (gI (sL σ 87 (gI σ 72 19) v1) 72 19) 0) 72 19) v5) 72 19) + 1)) 72 19)) 88 ((gI (sI (sI (sI (sL (sL σ 87 (gI σ 72 19) v1) 88 (gI (sL σ 87 (gI σ 72 19) v1) 72 19) 0) 89 (gI (sL (sL σ 87 (gI σ 72 19) v1) 88 (gI (sL σ 87 (gI σ 72 19) v1) 72 19) 0) 72 19) v5) 72 19 ((gI (sI (sL (sL σ 87 (gI σ 72 19) v1) 88 (gI (sL σ 87 (gI σ 72 19) v1) 72 19) 0) 89 (gI (sL (sL σ 87 (gI σ 72 19) v1) 88 (gI (sL σ 87 (gI σ 72 19) v1) 72 19) 0) 72 19) v5) 72 19) + 1)) 86 v6 (gI (sI (sI (sL (sL σ 87 (gI σ 72 19) v1) 88 (gI (sL σ 87 (gI σ 72 19) v1) 72 19) 0) 89 (gI (sL (sL σ 87 (gI σ 72 19) v1) 88 (gI (sL σ 87 (gI σ 72 19) v1) 72 19) 0) 72 19) v5) 72 19 ((gI (sI (sL (sL σ 87 (gI σ 72 19) v1) 88 (gI (sL σ 87 (gI σ 72 19) v1) 72 19) 0) 89 (gI (sL (sL σ 87 (gI σ 72 19) v1) 88 (gI (sL σ 87 (gI σ 72 19) v1) 72 19) 0) 72 19) v5) 72 19) + 1)) 72 19)) 86 v6) - 1)) + v3)) 89 ((gI (sI (sI (sI (sL (sL σ 87 (gI σ 72 19) v1) 88 (gI (sL σ 87 (gI σ 72 19) v1) 72 19) 0) 89 (gI (sL (sL σ 87 (gI σ 72 19) v1) 88 (gI (sL σ 87 (gI σ 72 19) v1) 72 19) 0) 72 19) v5) 72 19 ((gI (sI (sL (sL σ 87 (gI σ 72 19) v1) 88 (gI (sL σ 87 (gI σ 72 19) v1) 72 19) 0) 89 (gI (sL (sL σ 87 (gI σ 72 19) v1) 88 (gI (sL σ 87 (gI σ 72 19) v1) 72 19) 0) 72 19) v5) 72 19) + 1)) 86 v6 (gI (sI (sI (sL (sL σ 87 (gI σ 72 19) v1) 88 (gI (sL σ 87 (gI σ 72 19) v1) 72 19) 0) 89 (gI (sL (sL σ 87 (gI σ 72 19) v1) 88 (gI (sL σ 87 (gI σ 72 19) v1) 72 19) 0) 72 19) v5) 72 19 ((gI (sI (sL (sL σ 87 (gI σ 72 19) v1) 88 (gI (sL σ 87 (gI σ 72 19) v1) 72 19) 0) 89 (gI (sL (sL σ 87 (gI σ 72 19) v1) 88 (gI (sL σ 87 (gI σ 72 19) v1) 72 19) 0) 72 19) v5) 72 19) + 1)) 72 19)) 86 v6) - 1)) ≤ v5 → Q (sI (sL (sI (sI (sI (sL (sL σ 87 (gI σ 72 19) v1) 88 (gI (sL σ 87 (gI σ 72 19) v1) 72 19) 0) 89 (gI (sL (sL σ 87 (gI σ 72 19) v1) 88 (gI (sL σ 87 (gI σ 72 19) v1) 72 19) 0) 72 19) v5) 72 19 ((gI (sI (sL (sL σ 87 (gI σ 72 19) v1) 88 (gI (sL σ 87 (gI σ 72 19) v1) 72 19) 0) 89 (gI (sL (sL σ 87 (gI σ 72 19) v1) 88 (gI (sL σ 87 (gI σ 72 19) v1) 72 19) 0) 72 19) v5) 72 19) + 1)) 86 v6 (gI (sI (sI (sL (sL σ 87 (gI σ 72 19) v1) 88 (gI (sL σ 87 (gI σ 72 19) v1) 72 19) 0) 89 (gI (sL (sL σ 87 (gI σ 72 19) v1) 88 (gI (sL σ 87 (gI σ 72 19) v1) 72 19) 0) 72 19) v5) 72 19 ((gI (sI (sL (sL σ 87 (gI σ 72 19) v1) 88 (gI (sL σ 87 (gI σ 72 19) v1) 72 19) 0) 89 (gI (sL (sL σ 87 (gI σ 72 19) v1) 88 (gI (sL σ 87 (gI σ 72 19) v1) 72 19) 0) 72 19) v5) 72 19) + 1)) 72 19)) 88 ((gI (sI (sI (sI (sL (sL σ 87 (gI σ 72 19) v1) 88 (gI (sL σ 87 (gI σ 72 19) v1) 72 19) 0) 89 (gI (sL (sL σ 87 (gI σ 72 19) v1) 88 (gI (sL σ 87 (gI σ 72 19) v1) 72 19) 0) 72 19) v5) 72 19 ((gI (sI (sL (sL σ 87 (gI σ 72 19) v1) 88 (gI (sL σ 87 (gI σ 72 19) v1) 72 19) 0) 89 (gI (sL (sL σ 87 (gI σ 72 19) v1) 88 (gI (sL σ 87 (gI σ 72 19) v1) 72 19) 0) 72 19) v5) 72 19) + 1)) 86 v6 (gI (sI (sI (sL (sL σ 87 (gI σ 72 19) v1) 88 (gI (sL σ 87 (gI σ 72 19) v1) 72 19) 0) 89 (gI (sL (sL σ 87 (gI σ 72 19) v1) 88 (gI (sL σ 87 (gI σ 72 19) v1) 72 19) 0) 72 19) v5) 72 19 ((gI (sI (sL (sL σ 87 (gI σ 72 19) v1) 88 (gI (sL σ 87 (gI σ 72 19) v1) 72 19) 0) 89 (gI (sL (sL σ 87 (gI σ 72 19) v1) 88 (gI (sL σ 87 (gI σ 72 19) v1) 72 19) 0) 72 19) v5) 72 19) + 1)) 72 19)) 86 v6) - 1) ((gL (sI (sI (sI (sL (sL σ 87 (gI σ 72 19) v1) 88 (gI (sL σ 87 (gI σ 72 19) v1) 72 19) 0) 89 (gI (sL (sL σ 87 (gI σ 72 19) v1) 88 (gI (sL σ 87 (gI σ 72 19) v1) 72 19) 0) 72 19) v5) 72 19 ((gI (sI (sL (sL σ 87 (gI σ 72 19) v1) 88 (gI (sL σ 87 (gI σ 72 19) v1) 72 19) 0) 89 (gI (sL (sL σ 87 (gI σ 72 19) v1) 88 (gI (sL σ 87 (gI σ 72 19) v1) 72 19) 0) 72 19) v5) 72 19) + 1)) 86 v6 (gI (sI (sI (sL (sL σ 87 (gI σ 72 19) v1) 88 (gI (sL σ 87 (gI σ 72 19) v1) 72 19) 0) 89 (gI (sL (sL σ 87 (gI σ 72 19) v1) 88 (gI (sL σ 87 (gI σ 72 19) v1) 72 19) 0) 72 19) v5) 72 19 ((gI (sI (sL (sL σ 87 (gI σ 72 19) v1) 88 (gI (sL σ 87 (gI σ 72 19) v1) 72 19) 0) 89 (gI (sL (sL σ 87 (gI σ 72 19) v1) 88 (gI (sL σ 87 (gI σ 72 19) v1) 72 19) 0) 72 19) v5) 72 19) + 1)) 72 19)) 88 ((gI (sI (sI (sI (sL (sL σ 87 (gI σ 72 19) v1) 88 (gI (sL σ 87 (gI σ 72 19) v1) 72 19) 0) 89 (gI (sL (sL σ 87 (gI σ 72 19) v1) 88 (gI (sL σ 87 (gI σ 72 19) v1) 72 19) 0) 72 19) v5) 72 19 ((gI (sI (sL (sL σ 87 (gI σ 72 19) v1) 88 (gI (sL σ 87 (gI σ 72 19) v1) 72 19) 0) 89 (gI (sL (sL σ 87 (gI σ 72 19) v1) 88 (gI (sL σ 87 (gI σ 72 19) v1) 72 19) 0) 72 19) v5) 72 19) + 1)) 86 v6 (gI (sI (sI (sL (sL σ 87 (gI σ 72 19) v1) 88 (gI (sL σ 87 (gI σ 72 19) v1) 72 19) 0) 89 (gI (sL (sL σ 87 (gI σ 72 19) v1) 88 (gI (sL σ 87 (gI σ 72 19) v1) 72 19) 0) 72 19) v5) 72 19 ((gI (sI (sL (sL σ 87 (gI σ 72 19) v1) 88 (gI (sL σ 87 (gI σ 72 19) v1) 72 19) 0) 89 (gI (sL (sL σ 87 (gI σ 72 19) v1) 88 (gI (sL σ 87 (gI σ 72 19) v1) 72 19) 0) 72 19) v5) 72 19) + 1)) 72 19)) 86 v6) - 1)) + v3)) 89 ((gI (sI (sI (sI (sL (sL σ 87 (gI σ 72 19) v1) 88 (gI (sL σ 87 (gI σ 72 19) v1) 72 19) 0) 89 (gI (sL (sL σ 87 (gI σ 72 19) v1) 88 (gI (sL σ 87 (gI σ 72 19) v1) 72 19) 0) 72 19) v5) 72 19 ((gI (sI (sL (sL σ 87 (gI σ 72 19) v1) 88 (gI (sL σ 87 (gI σ 72 19) v1) 72 19) 0) 89 (gI (sL (sL σ 87 (gI σ 72 19) v1) 88 (gI (sL σ 87 (gI σ 72 19) v1) 72 19) 0) 72 19) v5) 72 19) + 1)) 86 v6 (gI (sI (sI (sL (sL σ 87 (gI σ 72 19) v1) 88 (gI (sL σ 87 (gI σ 72 19) v1) 72 19) 0) 89 (gI (sL (sL σ 87 (gI σ 72 19) v1) 88 (gI (sL σ 87 (gI σ 72 19) v1) 72 19) 0) 72 19) v5) 72 19 ((gI (sI (sL (sL σ 87 (gI σ 72 19) v1) 88 (gI (sL σ 87 (gI σ 72 19) v1) 72 19) 0) 89 (gI (sL (sL σ 87 (gI σ 72 19) v1) 88 (gI (sL σ 87 (gI σ 72 19) v1) 72 19) 0) 72 19) v5) 72 19) + 1)) 72 19)) 86 v6) - 1) (gI (sL (sI (sI (sI (sL (sL σ 87 (gI σ 72 19) v1) 88 (gI (sL σ 87 (gI σ 72 19) v1) 72 19) 0) 89 (gI (sL (sL σ 87 (gI σ 72 19) v1) 88 (gI (sL σ 87 (gI σ 72 19) v1) 72 19) 0) 72 19) v5) 72 19 ((gI (sI (sL (sL σ 87 (gI σ 72 19) v1) 88 (gI (sL σ 87 (gI σ 72 19) v1) 72 19) 0) 89 (gI (sL (sL σ 87 (gI σ 72 19) v1) 88 (gI (sL σ 87 (gI σ 72 19) v1) 72 19) 0) 72 19) v5) 72 19) + 1)) 86 v6 (gI (sI (sI (sL (sL σ 87 (gI σ 72 19) v1) 88 (gI (sL σ 87 (gI σ 72 19) v1) 72 19) 0) 89 (gI (sL (sL σ 87 (gI σ 72 19) v1) 88 (gI (sL σ 87 (gI σ 72 19) v1) 72 19) 0) 72 19) v5) 72 19 ((gI (sI (sL (sL σ 87 (gI σ 72 19) v1) 88 (gI (sL σ 87 (gI σ 72 19) v1) 72 19) 0) 89 (gI (sL (sL σ 87 (gI σ 72 19) v1) 88 (gI (sL σ 87 (gI σ 72 19) v1) 72 19) 0) 72 19) v5) 72 19) + 1)) 72 19)) 88 ((gI (sI (sI (sI (sL (sL σ 87 (gI σ 72 19) v1) 88 (gI (sL σ 87 (gI σ 72 19) v1) 72 19) 0) 89 (gI (sL (sL σ 87 (gI σ 72 19) v1) 88 (gI (sL σ 87 (gI σ 72 19) v1) 72 19) 0) 72 19) v5) 72 19 ((gI (sI (sL (sL σ 87 (gI σ 72 19) v1) 88 (gI (sL σ 87 (gI σ 72 19) v1) 72 19) 0) 89 (gI (sL (sL σ 87 (gI σ 72 19) v1) 88 (gI (sL σ 87 (gI σ 72 19) v1) 72 19) 0) 72 19) v5) 72 19) + 1)) 86 v6 (gI (sI (sI (sL (sL σ 87 (gI σ 72 19) v1) 88 (gI (sL σ 87 (gI σ 72 19) v1) 72 19) 0) 89 (gI (sL (sL σ 87 (gI σ 72 19) v1) 88 (gI (sL σ 87 (gI σ 72 19) v1) 72 19) 0) 72 19) v5) 72 19 ((gI (sI (sL (sL σ 87 (gI σ 72 19) v1) 88 (gI (sL σ 87 (gI σ 72 19) v1) 72 19) 0) 89 (gI (sL (sL σ 87 (gI σ 72 19) v1) 88 (gI (sL σ 87 (gI σ 72 19) v1) 72 19) 0) 72 19) v5) 72 19) + 1)) 72 19)) 86 v6) - 1) ((gL (sI (sI (sI (sL (sL σ 87 (gI σ 72 19) v1) 88 (gI (sL σ 87 (gI σ 72 19) v1) 72 19) 0) 89 (gI (sL (sL σ 87 (gI σ 72 19) v1) 88 (gI (sL σ 87 (gI σ 72 19) v1) 72 19) 0) 72 19) v5) 72 19 ((gI (sI (sL (sL σ 87 (gI σ 72 19) v1) 88 (gI (sL σ 87 (gI σ 72 19) v1) 72 19) 0) 89 (gI (sL (sL σ 87 (gI σ 72 19) v1) 88 (gI (sL σ 87 (gI σ 72 19) v1) 72 19) 0) 72 19) v5) 72 19) + 1)) 86 v6 (gI (sI (sI (sL (sL σ 87 (gI σ 72 19) v1) 88 (gI (sL σ 87 (gI σ 72 19) v1) 72 19) 0) 89 (gI (sL (sL σ 87 (gI σ 72 19) v1) 88 (gI (sL σ 87 (gI σ 72 19) v1) 72 19) 0) 72 19) v5) 72 19 ((gI (sI (sL (sL σ 87 (gI σ 72 19) v1) 88 (gI (sL σ 87 (gI σ 72 19) v1) 72 19) 0) 89 (gI (sL (sL σ 87 (gI σ 72 19) v1) 88 (gI (sL σ 87 (gI σ 72 19) v1) 72 19) 0) 72 19) v5) 72 19) + 1)) 72 19)) 88 ((gI (sI (sI (sI (sL (sL σ 87 (gI σ 72 19) v1) 88 (gI (sL σ 87 (gI σ 72 19) v1) 72 19) 0) 89 (gI (sL (sL σ 87 (gI σ 72 19) v1) 88 (gI (sL σ 87 (gI σ 72 19) v1) 72 19) 0) 72 19) v5) 72 19 ((gI (sI (sL (sL σ 87 (gI σ 72 19) v1) 88 (gI (sL σ 87 (gI σ 72 19) v1) 72 19) 0) 89 (gI (sL (sL σ 87 (gI σ 72 19) v1) 88 (gI (sL σ 87 (gI σ 72 19) v1) 72 19) 0) 72 19) v5) 72 19) + 1)) 86 v6 (gI (sI (sI (sL (sL σ 87 (gI σ 72 19) v1) 88 (gI (sL σ 87 (gI σ 72 19) v1) 72 19) 0) 89 (gI (sL (sL σ 87 (gI σ 72 19) v1) 88 (gI (sL σ 87 (gI σ 72 19) v1) 72 19) 0) 72 19) v5) 72 19 ((gI (sI (sL (sL σ 87 (gI σ 72 19) v1) 88 (gI (sL σ 87 (gI σ 72 19) v1) 72 19) 0) 89 (gI (sL (sL σ 87 (gI σ 72 19) v1) 88 (gI (sL σ 87 (gI σ 72 19) v1) 72 19) 0) 72 19) v5) 72 19) + 1)) 72 19)) 86 v6) - 1)) + v3)) 89 ((gI (sI (sI (sI (sL (sL σ 87 (gI σ 72 19) v1) 88 (gI (sL σ 87 (gI σ 72 19) v1) 72 19) 0) 89 (gI (sL (sL σ 87 (gI σ 72 19) v1) 88 (gI (sL σ 87 (gI σ 72 19) v1) 72 19) 0) 72 19) v5) 72 19 ((gI (sI (sL (sL σ 87 (gI σ 72 19) v1) 88 (gI (sL σ 87 (gI σ 72 19) v1) 72 19) 0) 89 (gI (sL (sL σ 87 (gI σ 72 19) v1) 88 (gI (sL σ 87 (gI σ 72 19) v1) 72 19) 0) 72 19) v5) 72 19) + 1)) 86 v6 (gI (sI (sI (sL (sL σ 87 (gI σ 72 19) v1) 88 (gI (sL σ 87 (gI σ 72 19) v1) 72 19) 0) 89 (gI (sL (sL σ 87 (gI σ 72 19) v1) 88 (gI (sL σ 87 (gI σ 72 19) v1) 72 19) 0) 72 19) v5) 72 19 ((gI (sI (sL (sL σ 87 (gI σ 72 19) v1) 88 (gI (sL σ 87 (gI σ 72 19) v1) 72 19) 0) 89 (gI (sL (sL σ 87 (gI σ 72 19) v1) 88 (gI (sL σ 87 (gI σ 72 19) v1) 72 19) 0) 72 19) v5) 72 19) + 1)) 72 19)) 86 v6) - 1)))) ∧ (v5 < (gI (sL (sI (sI (sI (sL (sL σ 87 (gI σ 72 19) v1) 88 (gI (sL σ 87 (gI σ 72 19) v1) 72 19) 0) 89 (gI (sL (sL σ 87 (gI σ 72 19) v1) 88 (gI (sL σ 87 (gI σ 72 19) v1) 72 19) 0) 72 19) v5) 72 19 ((gI (sI (sL (sL σ 87 (gI σ 72 19) v1) 88 (gI (sL σ 87 (gI σ 72 19) v1) 72 19) 0) 89 (gI (sL (sL σ 87 (gI σ 72 19) v1) 88 (gI (sL σ 87 (gI σ 72 19) v1) 72 19) 0) 72 19) v5) 72 19) + 1)) 86 v6 (gI (sI (sI (sL (sL σ 87 (gI σ 72 19) v1) 88 (gI (sL σ 87 (gI σ 72 19) v1) 72 19) 0) 89 (gI (sL (sL σ 87 (gI σ 72 19) v1) 88 (gI (sL σ 87 (gI σ 72 19) v1) 72 19) 0) 72 19) v5) 72 19 ((gI (sI (sL (sL σ 87 (gI σ 72 19) v1) 88 (gI (sL σ 87 (gI σ 72 19) v1) 72 19) 0) 89 (gI (sL (sL σ 87 (gI σ 72 19) v1) 88 (gI (sL σ 87 (gI σ 72 19) v1) 72 19) 0) 72 19) v5) 72 19) + 1)) 72 19)) 88 ((gI (sI (sI (sI (sL (sL σ 87 (gI σ 72 19) v1) 88 (gI (sL σ 87 (gI σ 72 19) v1) 72 19) 0) 89 (gI (sL (sL σ 87 (gI σ 72 19) v1) 88 (gI (sL σ 87 (gI σ 72 19) v1) 72 19) 0) 72 19) v5) 72 19 ((gI (sI (sL (sL σ 87 (gI σ 72 19) v1) 88 (gI (sL σ 87 (gI σ 72 19) v1) 72 19) 0) 89 (gI (sL (sL σ 87 (gI σ 72 19) v1) 88 (gI (sL σ 87 (gI σ 72 19) v1) 72 19) 0) 72 19) v5) 72 19) + 1)) 86 v6 (gI (sI (sI (sL (sL σ 87 (gI σ 72 19) v1) 88 (gI (sL σ 87 (gI σ 72 19) v1) 72 19) 0) 89 (gI (sL (sL σ 87 (gI σ 72 19) v1) 88 (gI (sL σ 87 (gI σ 72 19) v1) 72 19) 0) 72 19) v5) 72 19 ((gI (sI (sL (sL σ 87 (gI σ 72 19) v1) 88 (gI (sL σ 87 (gI σ 72 19) v1) 72 19) 0) 89 (gI (sL (sL σ 87 (gI σ 72 19) v1) 88 (gI (sL σ 87 (gI σ 72 19) v1) 72 19) 0) 72 19) v5) 72 19) + 1)) 72 19)) 86 v6) - 1) ((gL (sI (sI (sI (sL (sL σ 87 (gI σ 72 19) v1) 88 (gI (sL σ 87 (gI σ 72 19) v1) 72 19) 0) 89 (gI (sL (sL σ 87 (gI σ 72 19) v1) 88 (gI (sL σ 87 (gI σ 72 19) v1) 72 19) 0) 72 19) v5) 72 19 ((gI (sI (sL (sL σ 87 (gI σ 72 19) v1) 88 (gI (sL σ 87 (gI σ 72 19) v1) 72 19) 0) 89 (gI (sL (sL σ 87 (gI σ 72 19) v1) 88 (gI (sL σ 87 (gI σ 72 19) v1) 72 19) 0) 72 19) v5) 72 19) + 1)) 86 v6 (gI (sI (sI (sL (sL σ 87 (gI σ 72 19) v1) 88 (gI (sL σ 87 (gI σ 72 19) v1) 72 19) 0) 89 (gI (sL (sL σ 87 (gI σ 72 19) v1) 88 (gI (sL σ 87 (gI σ 72 19) v1) 72 19) 0) 72 19) v5) 72 19 ((gI (sI (sL (sL σ 87 (gI σ 72 19) v1) 88 (gI (sL σ 87 (gI σ 72 19) v1) 72 19) 0) 89 (gI (sL (sL σ 87 (gI σ 72 19) v1) 88 (gI (sL σ 87 (gI σ 72 19) v1) 72 19) 0) 72 19) v5) 72 19) + 1)) 72 19)) 88 ((gI (sI (sI (sI (sL (sL σ 87 (gI σ 72 19) v1) 88 (gI (sL σ 87 (gI σ 72 19) v1) 72 19) 0) 89 (gI (sL (sL σ 87 (gI σ 72 19) v1) 88 (gI (sL σ 87 (gI σ 72 19) v1) 72 19) 0) 72 19) v5) 72 19 ((gI (sI (sL (sL σ 87 (gI σ 72 19) v1) 88 (gI (sL σ 87 (gI σ 72 19) v1) 72 19) 0) 89 (gI (sL (sL σ 87 (gI σ 72 19) v1) 88 (gI (sL σ 87 (gI σ 72 19) v1) 72 19) 0) 72 19) v5) 72 19) + 1)) 86 v6 (gI (sI (sI (sL (sL σ 87 (gI σ 72 19) v1) 88 (gI (sL σ 87 (gI σ 72 19) v1) 72 19) 0) 89 (gI (sL (sL σ 87 (gI σ 72 19) v1) 88 (gI (sL σ 87 (gI σ 72 19) v1) 72 19) 0) 72 19) v5) 72 19 ((gI (sI (sL (sL σ 87 (gI σ 72 19) v1) 88 (gI (sL σ 87 (gI σ 72 19) v1) 72 19) 0) 89 (gI (sL (sL σ 87 (gI σ 72 19) v1) 88 (gI (sL σ 87 (gI σ 72 19) v1) 72 19) 0) 72 19) v5) 72 19) + 1)) 72 19)) 86 v6) - 1)) + v3)) 89 ((gI (sI (sI (sI (sL (sL σ 87 (gI σ 72 19) v1) 88 (gI (sL σ 87 (gI σ 72 19) v1) 72 19) 0) 89 (gI (sL (sL σ 87 (gI σ 72 19) v1) 88 (gI (sL σ 87 (gI σ 72 19) v1) 72 19) 0) 72 19) v5) 72 19 ((gI (sI (sL (sL σ 87 (gI σ 72 19) v1) 88 (gI (sL σ 87 (gI σ 72 19) v1) 72 19) 0) 89 (gI (sL (sL σ 87 (gI σ 72 19) v1) 88 (gI (sL σ 87 (gI σ 72 19) v1) 72 19) 0) 72 19) v5) 72 19) + 1)) 86 v6 (gI (sI (sI (sL (sL σ 87 (gI σ 72 19) v1) 88 (gI (sL σ 87 (gI σ 72 19) v1) 72 19) 0) 89 (gI (sL (sL σ 87 (gI σ 72 19) v1) 88 (gI (sL σ 87 (gI σ 72 19) v1) 72 19) 0) 72 19) v5) 72 19 ((gI (sI (sL (sL σ 87 (gI σ 72 19) v1) 88 (gI (sL σ 87 (gI σ 72 19) v1) 72 19) 0) 89 (gI (sL (sL σ 87 (gI σ 72 19) v1) 88 (gI (sL σ 87 (gI σ 72 19) v1) 72 19) 0) 72 19) v5) 72 19) + 1)) 72 19)) 86 v6) - 1)) → Q (sI (sL (sI (sI (sI (sL (sL σ 87 (gI σ 72 19) v1) 88 (gI (sL σ 87 (gI σ 72 19) v1) 72 19) 0) 89 (gI (sL (sL σ 87 (gI σ 72 19) v1) 88 (gI (sL σ 87 (gI σ 72 19) v1) 72 19) 0) 72 19) v5) 72 19 ((gI (sI (sL (sL σ 87 (gI σ 72 19) v1) 88 (gI (sL σ 87 (gI σ 72 19) v1) 72 19) 0) 89 (gI (sL (sL σ 87 (gI σ 72 19) v1) 88 (gI (sL σ 87 (gI σ 72 19) v1) 72 19) 0) 72 19) v5) 72 19) + 1)) 86 v6 (gI (sI (sI (sL (sL σ 87 (gI σ 72 19) v1) 88 (gI (sL σ 87 (gI σ 72 19) v1) 72 19) 0) 89 (gI (sL (sL σ 87 (gI σ 72 19) v1) 88 (gI (sL σ 87 (gI σ 72 19) v1) 72 19) 0) 72 19) v5) 72 19 ((gI (sI (sL (sL σ 87 (gI σ 72 19) v1) 88 (gI (sL σ 87 (gI σ 72 19) v1) 72 19) 0) 89 (gI (sL (sL σ 87 (gI σ 72 19) v1) 88 (gI (sL σ 87 (gI σ 72 19) v1) 72 19) 0) 72 19) v5) 72 19) + 1)) 72 19)) 88 ((gI (sI (sI (sI (sL (sL σ 87 (gI σ 72 19) v1) 88 (gI (sL σ 87 (gI σ 72 19) v1) 72 19) 0) 89 (gI (sL (sL σ 87 (gI σ 72 19) v1) 88 (gI (sL σ 87 (gI σ 72 19) v1) 72 19) 0) 72 19) v5) 72 19 ((gI (sI (sL (sL σ 87 (gI σ 72 19) v1) 88 (gI (sL σ 87 (gI σ 72 19) v1) 72 19) 0) 89 (gI (sL (sL σ 87 (gI σ 72 19) v1) 88 (gI (sL σ 87 (gI σ 72 19) v1) 72 19) 0) 72 19) v5) 72 19) + 1)) 86 v6 (gI (sI (sI (sL (sL σ 87 (gI σ 72 19) v1) 88 (gI (sL σ 87 (gI σ 72 19) v1) 72 19) 0) 89 (gI (sL (sL σ 87 (gI σ 72 19) v1) 88 (gI (sL σ 87 (gI σ 72 19) v1) 72 19) 0) 72 19) v5) 72 19 ((gI (sI (sL (sL σ 87 (gI σ 72 19) v1) 88 (gI (sL σ 87 (gI σ 72 19) v1) 72 19) 0) 89 (gI (sL (sL σ 87 (gI σ 72 19) v1) 88 (gI (sL σ 87 (gI σ 72 19) v1) 72 19) 0) 72 19) v5) 72 19) + 1)) 72 19)) 86 v6) - 1) ((gL (sI (sI (sI (sL (sL σ 87 (gI σ 72 19) v1) 88 (gI (sL σ 87 (gI σ 72 19) v1) 72 19) 0) 89 (gI (sL (sL σ 87 (gI σ 72 19) v1) 88 (gI (sL σ 87 (gI σ 72 19) v1) 72 19) 0) 72 19) v5) 72 19 ((gI (sI (sL (sL σ 87 (gI σ 72 19) v1) 88 (gI (sL σ 87 (gI σ 72 19) v1) 72 19) 0) 89 (gI (sL (sL σ 87 (gI σ 72 19) v1) 88 (gI (sL σ 87 (gI σ 72 19) v1) 72 19) 0) 72 19) v5) 72 19) + 1)) 86 v6 (gI (sI (sI (sL (sL σ 87 (gI σ 72 19) v1) 88 (gI (sL σ 87 (gI σ 72 19) v1) 72 19) 0) 89 (gI (sL (sL σ 87 (gI σ 72 19) v1) 88 (gI (sL σ 87 (gI σ 72 19) v1) 72 19) 0) 72 19) v5) 72 19 ((gI (sI (sL (sL σ 87 (gI σ 72 19) v1) 88 (gI (sL σ 87 (gI σ 72 19) v1) 72 19) 0) 89 (gI (sL (sL σ 87 (gI σ 72 19) v1) 88 (gI (sL σ 87 (gI σ 72 19) v1) 72 19) 0) 72 19) v5) 72 19) + 1)) 72 19)) 88 ((gI (sI (sI (sI (sL (sL σ 87 (gI σ 72 19) v1) 88 (gI (sL σ 87 (gI σ 72 19) v1) 72 19) 0) 89 (gI (sL (sL σ 87 (gI σ 72 19) v1) 88 (gI (sL σ 87 (gI σ 72 19) v1) 72 19) 0) 72 19) v5) 72 19 ((gI (sI (sL (sL σ 87 (gI σ 72 19) v1) 88 (gI (sL σ 87 (gI σ 72 19) v1) 72 19) 0) 89 (gI (sL (sL σ 87 (gI σ 72 19) v1) 88 (gI (sL σ 87 (gI σ 72 19) v1) 72 19) 0) 72 19) v5) 72 19) + 1)) 86 v6 (gI (sI (sI (sL (sL σ 87 (gI σ 72 19) v1) 88 (gI (sL σ 87 (gI σ 72 19) v1) 72 19) 0) 89 (gI (sL (sL σ 87 (gI σ 72 19) v1) 88 (gI (sL σ 87 (gI σ 72 19) v1) 72 19) 0) 72 19) v5) 72 19 ((gI (sI (sL (sL σ 87 (gI σ 72 19) v1) 88 (gI (sL σ 87 (gI σ 72 19) v1) 72 19) 0) 89 (gI (sL (sL σ 87 (gI σ 72 19) v1) 88 (gI (sL σ 87 (gI σ 72 19) v1) 72 19) 0) 72 19) v5) 72 19) + 1)) 72 19)) 86 v6) - 1)) + v3)) 89 ((gI (sI (sI (sI (sL (sL σ 87 (gI σ 72 19) v1) 88 (gI (sL σ 87 (gI σ 72 19) v1) 72 19) 0) 89 (gI (sL (sL σ 87 (gI σ 72 19) v1) 88 (gI (sL σ 87 (gI σ 72 19) v1) 72 19) 0) 72 19) v5) 72 19 ((gI (sI (sL (sL σ 87 (gI σ 72 19) v1) 88 (gI (sL σ 87 (gI σ 72 19) v1) 72 19) 0) 89 (gI (sL (sL σ 87 (gI σ 72 19) v1) 88 (gI (sL σ 87 (gI σ 72 19) v1) 72 19) 0) 72 19) v5) 72 19) + 1)) 86 v6 (gI (sI (sI (sL (sL σ 87 (gI σ 72 19) v1) 88 (gI (sL σ 87 (gI σ 72 19) v1) 72 19) 0) 89 (gI (sL (sL σ 87 (gI σ 72 19) v1) 88 (gI (sL σ 87 (gI σ 72 19) v1) 72 19) 0) 72 19) v5) 72 19 ((gI (sI (sL (sL σ 87 (gI σ 72 19) v1) 88 (gI (sL σ 87 (gI σ 72 19) v1) 72 19) 0) 89 (gI (sL (sL σ 87 (gI σ 72 19) v1) 88 (gI (sL σ 87 (gI σ 72 19) v1) 72 19) 0) 72 19) v5) 72 19) + 1)) 72 19)) 86 v6) - 1) v5)))))) ∧ (0 < (gI σ 86 v6) → ((0 : Int) ≤ ((gI σ 86 v6) - 1) ∧ ((gI σ 86 v6) - 1) < 16384) ∧ i64 ((gL σ 87 ((gI σ 86 v6) - 1))) ∧ (((gL σ 87 ((gI σ 86 v6) - 1)) = v1 → (((gI σ 86 v6) ≠ 0 → i32 ((gI (sL σ 88 ((gI σ 86 v6) - 1) ((gL σ 88 ((gI σ 86 v6) - 1)) + v3)) 89 ((gI σ 86 v6) - 1))) ∧ (((gI (sL σ 88 ((gI σ 86 v6) - 1) ((gL σ 88 ((gI σ 86 v6) - 1)) + v3)) 89 ((gI σ 86 v6) - 1)) ≤ v5 → Q (sI (sL σ 88 ((gI σ 86 v6) - 1) ((gL σ 88 ((gI σ 86 v6) - 1)) + v3)) 89 ((gI σ 86 v6) - 1) (gI (sL σ 88 ((gI σ 86 v6) - 1) ((gL σ 88 ((gI σ 86 v6) - 1)) + v3)) 89 ((gI σ 86 v6) - 1)))) ∧ (v5 < (gI (sL σ 88 ((gI σ 86 v6) - 1) ((gL σ 88 ((gI σ 86 v6) - 1)) + v3)) 89 ((gI σ 86 v6) - 1)) → Q (sI (sL σ 88 ((gI σ 86 v6) - 1) ((gL σ 88 ((gI σ 86 v6) - 1)) + v3)) 89 ((gI σ 86 v6) - 1) v5)))) ∧ ((gI σ 86 v6) = 0 → ((0 : Int) ≤ (gI σ 72 19) ∧ (gI σ 72 19) < 16384) ∧ ((0 : Int) ≤ (gI (sL σ 87 (gI σ 72 19) v1) 72 19) ∧ (gI (sL σ 87 (gI σ 72 19) v1) 72 19) < 16384) ∧ ((0 : Int) ≤ (gI (sL (sL σ 87 (gI σ 72 19) v1) 88 (gI (sL σ 87 (gI σ 72 19) v1) 72 19) 0) 72 19) ∧ (gI (sL (sL σ 87 (gI σ 72 19) v1) 88 (gI (sL σ 87 (gI σ 72 19) v1) 72 19) 0) 72 19) < 16384) ∧ ((0 : Int) ≤ ((gI (sI (sI (sI (sL (sL σ 87 (gI σ 72 19) v1) 88 (gI (sL σ 87 (gI σ 72 19) v1) 72 19) 0) 89 (gI (sL (sL σ 87 (gI σ 72 19) v1) 88 (gI (sL σ 87 (gI σ 72 19) v1) 72 19) 0) 72 19) v5) 72 19 ((gI (sI (sL (sL σ 87 (gI σ 72 19) v1) 88 (gI (sL σ 87 (gI σ 72 19) v1) 72 19) 0) 89 (gI (sL (sL σ 87 (gI σ 72 19) v1) 88 (gI (sL σ 87 (gI σ 72 19) v1) 72 19) 0) 72 19) v5) 72 19) + 1)) 86 v6 (gI (sI (sI (sL (sL σ 87 (gI σ 72 19) v1) 88 (gI (sL σ 87 (gI σ 72 19) v1) 72 19) 0) 89 (gI (sL (sL σ 87 (gI σ 72 19) v1) 88 (gI (sL σ 87 (gI σ 72 19) v1) 72 19) 0) 72 19) v5) 72 19 ((gI (sI (sL (sL σ 87 (gI σ 72 19) v1) 88 (gI (sL σ 87 (gI σ 72 19) v1) 72 19) 0) 89 (gI (sL (sL σ 87 (gI σ 72 19) v1) 88 (gI (sL σ 87 (gI σ 72 19) v1) 72 19) 0) 72 19) v5) 72 19) + 1)) 72 19)) 86 v6) - 1) ∧ ((gI (sI (sI (sI (sL (sL σ 87 (gI σ 72 19) v1) 88 (gI (sL σ 87 (gI σ 72 19) v1) 72 19) 0) 89 (gI (sL (sL σ 87 (gI σ 72 19) v1) 88 (gI (sL σ 87 (gI σ 72 19) v1) 72 19) 0) 72 19) v5) 72 19 ((gI (sI (sL (sL σ 87 (gI σ 72 19) v1) 88 (gI (sL σ 87 (gI σ 72 19) v1) 72 19) 0) 89 (gI (sL (sL σ 87 (gI σ 72 19) v1) 88 (gI (sL σ 87 (gI σ 72 19) v1) 72 19) 0) 72 19) v5) 72 19) + 1)) 86 v6 (gI (sI (sI (sL (sL σ 87 (gI σ 72 19) v1) 88 (gI (sL σ 87 (gI σ 72 19) v1) 72 19) 0) 89 (gI (sL (sL σ 87 (gI σ 72 19) v1) 88 (gI (sL σ 87 (gI σ 72 19) v1) 72 19) 0) 72 19) v5) 72 19 ((gI (sI (sL (sL σ 87 (gI σ 72 19) v1) 88 (gI (sL σ 87 (gI σ 72 19) v1) 72 19) 0) 89 (gI (sL (sL σ 87 (gI σ 72 19) v1) 88 (gI (sL σ 87 (gI σ 72 19) v1) 72 19) 0) 72 19) v5) 72 19) + 1)) 72 19)) 86 v6) - 1) < 16384) ∧ i32 ((gI (sL (sI (sI (sI (sL (sL σ 87 (gI σ 72 19) v1) 88 (gI (sL σ 87 (gI σ 72 19) v1) 72 19) 0) 89 (gI (sL (sL σ 87 (gI σ 72 19) v1) 88 (gI (sL σ 87 (gI σ 72 19) v1) 72 19) 0) 72 19) v5) 72 19 ((gI (sI (sL (sL σ 87 (gI σ 72 19) v1) 88 (gI (sL σ 87 (gI σ 72 19) v1) 72 19) 0) 89 (gI (sL (sL σ 87 (gI σ 72 19) v1) 88 (gI (sL σ 87 (gI σ 72 19) v1) 72 19) 0) 72 19) v5) 72 19) + 1)) 86 v6 (gI (sI (sI (sL (sL σ 87 (gI σ 72 19) v1) 88 (gI (sL σ 87 (gI σ 72 19) v1) 72 19) 0) 89 (gI (sL (sL σ 87 (gI σ 72 19) v1) 88 (gI (sL σ 87 (gI σ 72 19) v1) 72 19) 0) 72 19) v5) 72 19 ((gI (sI (sL (sL σ 87 (gI σ 72 19) v1) 88 (gI (sL σ 87 (gI σ 72 19) v1) 72 19) 0) 89 (gI (sL (sL σ 87 (gI σ 72 19) v1) 88 (gI (sL σ 87 (gI σ 72 19) v1) 72 19) 0) 72 19) v5) 72 19) + 1)) 72 19)) 88 ((gI (sI (sI (sI (sL (sL σ 87 (gI σ 72 19) v1) 88 (gI (sL σ 87 (gI σ 72 19) v1) 72 19) 0) 89 (gI (sL (sL σ 87 (gI σ 72 19) v1) 88 (gI (sL σ 87 (gI σ 72 19) v1) 72 19) 0) 72 19) v5) 72 19 ((gI (sI (sL (sL σ 87 (gI σ 72 19) v1) 88 (gI (sL σ 87 (gI σ 72 19) v1) 72 19) 0) 89 (gI (sL (sL σ 87 (gI σ 72 19) v1) 88 (gI (sL σ 87 (gI σ 72 19) v1) 72 19) 0) 72 19) v5) 72 19) + 1)) 86 v6 (gI (sI (sI (sL (sL σ 87 (gI σ 72 19) v1) 88 (gI (sL σ 87 (gI σ 72 19) v1) 72 19) 0) 89 (gI (sL (sL σ 87 (gI σ 72 19) v1) 88 (gI (sL σ 87 (gI σ 72 19) v1) 72 19) 0) 72 19) v5) 72 19 ((gI (sI (sL (sL σ 87 (gI σ 72 19) v1) 88 (gI (sL σ 87 (gI σ 72 19) v1) 72 19) 0) 89 (gI (sL (sL σ 87 (gI σ 72 19) v1) 88 (gI (sL σ 87 (gI σ 72 19) v1) 72 19) 0) 72 19) v5) 72 19) + 1)) 72 19)) 86 v6) - 1) ((gL (sI (sI (sI (sL (sL σ 87 (gI σ 72 19) v1) 88 (gI (sL σ 87 (gI σ 72 19) v1) 72 19) 0) 89 (gI (sL (sL σ 87 (gI σ 72 19) v1) 88 (gI (sL σ 87 (gI σ 72 19) v1) 72 19) 0) 72 19) v5) 72 19 ((gI (sI (sL (sL σ 87 (gI σ 72 19) v1) 88 (gI (sL σ 87 (gI σ 72 19) v1) 72 19) 0) 89 (gI (sL (sL σ 87 (gI σ 72 19) v1) 88 (gI (sL σ 87 (gI σ 72 19) v1) 72 19) 0) 72 19) v5) 72 19) + 1)) 86 v6 (gI (sI (sI (sL (sL σ 87 (gI σ 72 19) v1) 88 (gI (sL σ 87 (gI σ 72 19) v1) 72 19) 0) 89 (gI (sL (sL σ 87 (gI σ 72 19) v1) 88 (gI (sL σ 87 (gI σ 72 19) v1) 72 19) 0) 72 19) v5) 72 19 ((gI (sI (sL (sL σ 87 (gI σ 72 19) v1) 88 (gI (sL σ 87 (gI σ 72 19) v1) 72 19) 0) 89 (gI (sL (sL σ 87 (gI σ 72 19) v1) 88 (gI (sL σ 87 (gI σ 72 19) v1) 72 19) 0) 72 19) v5) 72 19) + 1)) 72 19)) 88 ((gI (sI (sI (sI (sL (sL σ 87 (gI σ 72 19) v1) 88 (gI (sL σ 87 (gI σ 72 19) v1) 72 19) 0) 89 (gI (sL (sL σ 87 (gI σ 72 19) v1) 88 (gI (sL σ 87 (gI σ 72 19) v1) 72 19) 0) 72 19) v5) 72 19 ((gI (sI (sL (sL σ 87 (gI σ 72 19) v1) 88 (gI (sL σ 87 (gI σ 72 19) v1) 72 19) 0) 89 (gI (sL (sL σ 87 (gI σ 72 19) v1) 88 (gI (sL σ 87 (gI σ 72 19) v1) 72 19) 0) 72 19) v5) 72 19) + 1)) 86 v6 (gI (sI (sI (sL (sL σ 87 (gI σ 72 19) v1) 88 (gI (sL σ 87 (gI σ 72 19) v1) 72 19) 0) 89 (gI (sL (sL σ 87 (gI σ 72 19) v1) 88 (gI (sL σ 87 (gI σ 72 19) v1) 72 19) 0) 72 19) v5) 72 19 ((gI (sI (sL (sL σ 87 (gI σ 72 19) v1) 88 (gI (sL σ 87 (gI σ 72 19) v1) 72 19) 0) 89 (gI (sL (sL σ 87 (gI σ 72 19) v1) 88 (gI (sL σ 87 (gI σ 72 19) v1) 72 19) 0) 72 19) v5) 72 19) + 1)) 72 19)) 86 v6) - 1)) + v3)) 89 ((gI (sI (sI (sI (sL (sL σ 87 (gI σ 72 19) v1) 88 (gI (sL σ 87 (gI σ 72 19) v1) 72 19) 0) 89 (gI (sL (sL σ 87 (gI σ 72 19) v1) 88 (gI (sL σ 87 (gI σ 72 19) v1) 72 19) 0) 72 19) v5) 72 19 ((gI (sI (sL (sL σ 87 (gI σ 72 19) v1) 88 (gI (sL σ 87 (gI σ 72 19) v1) 72 19) 0) 89 (gI (sL (sL σ 87 (gI σ 72 19) v1) 88 (gI (sL σ 87 (gI σ 72 19) v1) 72 19) 0) 72 19) v5) 72 19) + 1)) 86 v6 (gI (sI (sI (sL (sL σ 87 (gI σ 72 19) v1) 88 (gI (sL σ 87 (gI σ 72 19) v1) 72 19) 0) 89 (gI (sL (sL σ 87 (gI σ 72 19) v1) 88 (gI (sL σ 87 (gI σ 72 19) v1) 72 19) 0) 72 19) v5) 72 19 ((gI (sI (sL (sL σ 87 (gI σ 72 19) v1) 88 (gI (sL σ 87 (gI σ 72 19) v1) 72 19) 0) 89 (gI (sL (sL σ 87 (gI σ 72 19) v1) 88 (gI (sL σ 87 (gI σ 72 19) v1) 72 19) 0) 72 19) v5) 72 19) + 1)) 72 19)) 86 v6) - 1))) ∧ (((gI (sL (sI (sI (sI (sL (sL σ 87 (gI σ 72 19) v1) 88 (gI (sL σ 87 (gI σ 72 19) v1) 72 19) 0) 89 (gI (sL (sL σ 87 (gI σ 72 19) v1) 88 (gI (sL σ 87 (gI σ 72 19) v1) 72 19) 0) 72 19) v5) 72 19 ((gI (sI (sL (sL σ 87 (gI σ 72 19) v1) 88 (gI (sL σ 87 (gI σ 72 19) v1) 72 19) 0) 89 (gI (sL (sL σ 87 (gI σ 72 19) v1) 88 (gI (sL σ 87 (gI σ 72 19) v1) 72 19) 0) 72 19) v5) 72 19) + 1)) 86 v6 (gI (sI (sI (sL (sL σ 87 (gI σ 72 19) v1) 88 (gI (sL σ 87 (gI σ 72 19) v1) 72 19) 0) 89 (gI (sL (sL σ 87 (gI σ 72 19) v1) 88 (gI (sL σ 87 (gI σ 72 19) v1) 72 19) 0) 72 19) v5) 72 19 ((gI (sI (sL (sL σ 87 (gI σ 72 19) v1) 88 (gI (sL σ 87 (gI σ 72 19) v1) 72 19) 0) 89 (gI (sL (sL σ 87 (gI σ 72 19) v1) 88 (gI (sL σ 87 (gI σ 72 19) v1) 72 19) 0) 72 19) v5) 72 19) + 1)) 72 19)) 88 ((gI (sI (sI (sI (sL (sL σ 87 (gI σ 72 19) v1) 88 (gI (sL σ 87 (gI σ 72 19) v1) 72 19) 0) 89 (gI (sL (sL σ 87 (gI σ 72 19) v1) 88 (gI (sL σ 87 (gI σ 72 19) v1) 72 19) 0) 72 19) v5) 72 19 ((gI (sI (sL (sL σ 87 (gI σ 72 19) v1) 88 (gI (sL σ 87 (gI σ 72 19) v1) 72 19) 0) 89 (gI (sL (sL σ 87 (gI σ 72 19) v1) 88 (gI (sL σ 87 (gI σ 72 19) v1) 72 19) 0) 72 19) v5) 72 19) + 1)) 86 v6 (gI (sI (sI (sL (sL σ 87 (gI σ 72 19) v1) 88 (gI (sL σ 87 (gI σ 72 19) v1) 72 19) 0) 89 (gI (sL (sL σ 87 (gI σ 72 19) v1) 88 (gI (sL σ 87 (gI σ 72 19) v1) 72 19) 0) 72 19) v5) 72 19 ((gI (sI (sL (sL σ 87 (gI σ 72 19) v1) 88 (gI (sL σ 87 (gI σ 72 19) v1) 72 19) 0) 89 (gI (sL (sL σ 87 (gI σ 72 19) v1) 88 (gI (sL σ 87 (gI σ 72 19) v1) 72 19) 0) 72 19) v5) 72 19) + 1)) 72 19)) 86 v6) - 1) ((gL (sI (sI (sI (sL (sL σ 87 (gI σ 72 19) v1) 88 (gI (sL σ 87 (gI σ 72 19) v1) 72 19) 0) 89 (gI (sL (sL σ 87 (gI σ 72 19) v1) 88 (gI (sL σ 87 (gI σ 72 19) v1) 72 19) 0) 72 19) v5) 72 19 ((gI (sI (sL (sL σ 87 (gI σ 72 19) v1) 88 (gI (sL σ 87 (gI σ 72 19) v1) 72 19) 0) 89 (gI (sL (sL σ 87 (gI σ 72 19) v1) 88 (gI (sL σ 87 (gI σ 72 19) v1) 72 19) 0) 72 19) v5) 72 19) + 1)) 86 v6 (gI (sI (sI (sL (sL σ 87 (gI σ 72 19) v1) 88 (gI (sL σ 87 (gI σ 72 19) v1) 72 19) 0) 89 (gI (sL (sL σ 87 (gI σ 72 19) v1) 88 (gI (sL σ 87 (gI σ 72 19) v1) 72 19) 0) 72 19) v5) 72 19 ((gI (sI (sL (sL σ 87 (gI σ 72 19) v1) 88 (gI (sL σ 87 (gI σ 72 19) v1) 72 19) 0) 89 (gI (sL (sL σ 87 (gI σ 72 19) v1) 88 (gI (sL σ 87 (gI σ 72 19) v1) 72 19) 0) 72 19) v5) 72 19) + 1)) 72 19)) 88 ((gI (sI (sI (sI (sL (sL σ 87 (gI σ 72 19) v1) 88 (gI (sL σ 87 (gI σ 72 19) v1) 72 19) 0) 89 (gI (sL (sL σ 87 (gI σ 72 19) v1) 88 (gI (sL σ 87 (gI σ 72 19) v1) 72 19) 0) 72 19) v5) 72 19 ((gI (sI (sL (sL σ 87 (gI σ 72 19) v1) 88 (gI (sL σ 87 (gI σ 72 19) v1) 72 19) 0) 89 (gI (sL (sL σ 87 (gI σ 72 19) v1) 88 (gI (sL σ 87 (gI σ 72 19) v1) 72 19) 0) 72 19) v5) 72 19) + 1)) 86 v6 (gI (sI (sI (sL (sL σ 87 (gI σ 72 19) v1) 88 (gI (sL σ 87 (gI σ 72 19) v1) 72 19) 0) 89 (gI (sL (sL σ 87 (gI σ 72 19) v1) 88 (gI (sL σ 87 (gI σ 72 19) v1) 72 19) 0) 72 19) v5) 72 19 ((gI (sI (sL (sL σ 87 (gI σ 72 19) v1) 88 (gI (sL σ 87 (gI σ 72 19) v1) 72 19) 0) 89 (gI (sL (sL σ 87 (gI σ 72 19) v1) 88 (gI (sL σ 87 (gI σ 72 19) v1) 72 19) 0) 72 19) v5) 72 19) + 1)) 72 19)) 86 v6) - 1)) + v3)) 89 ((gI (sI (sI (sI (sL (sL σ 87 (gI σ 72 19) v1) 88 (gI (sL σ 87 (gI σ 72 19) v1) 72 19) 0) 89 (gI (sL (sL σ 87 (gI σ 72 19) v1) 88 (gI (sL σ 87 (gI σ 72 19) v1) 72 19) 0) 72 19) v5) 72 19 ((gI (sI (sL (sL σ 87 (gI σ 72 19) v1) 88 (gI (sL σ 87 (gI σ 72 19) v1) 72 19) 0) 89 (gI (sL (sL σ 87 (gI σ 72 19) v1) 88 (gI (sL σ 87 (gI σ 72 19) v1) 72 19) 0) 72 19) v5) 72 19) + 1)) 86 v6 (gI (sI (sI (sL (sL σ 87 (gI σ 72 19) v1) 88 (gI (sL σ 87 (gI σ 72 19) v1) 72 19) 0) 89 (gI (sL (sL σ 87 (gI σ 72 19) v1) 88 (gI (sL σ 87 (gI σ 72 19) v1) 72 19) 0) 72 19) v5) 72 19 ((gI (sI (sL (sL σ 87 (gI σ 72 19) v1) 88 (gI (sL σ 87 (gI σ 72 19) v1) 72 19) 0) 89 (gI (sL (sL σ 87 (gI σ 72 19) v1) 88 (gI (sL σ 87 (gI σ 72 19) v1) 72 19) 0) 72 19) v5) 72 19) + 1)) 72 19)) 86 v6) - 1)) ≤ v5 → Q (sI (sL (sI (sI (sI (sL (sL σ 87 (gI σ 72 19) v1) 88 (gI (sL σ 87 (gI σ 72 19) v1) 72 19) 0) 89 (gI (sL (sL σ 87 (gI σ 72 19) v1) 88 (gI (sL σ 87 (gI σ 72 19) v1) 72 19) 0) 72 19) v5) 72 19 ((gI (sI (sL (sL σ 87 (gI σ 72 19) v1) 88 (gI (sL σ 87 (gI σ 72 19) v1) 72 19) 0) 89 (gI (sL (sL σ 87 (gI σ 72 19) v1) 88 (gI (sL σ 87 (gI σ 72 19) v1) 72 19) 0) 72 19) v5) 72 19) + 1)) 86 v6 (gI (sI (sI (sL (sL σ 87 (gI σ 72 19) v1) 88 (gI (sL σ 87 (gI σ 72 19) v1) 72 19) 0) 89 (gI (sL (sL σ 87 (gI σ 72 19) v1) 88 (gI (sL σ 87 (gI σ 72 19) v1) 72 19) 0) 72 19) v5) 72 19 ((gI (sI (sL (sL σ 87 (gI σ 72 19) v1) 88 (gI (sL σ 87 (gI σ 72 19) v1) 72 19) 0) 89 (gI (sL (sL σ 87 (gI σ 72 19) v1) 88 (gI (sL σ 87 (gI σ 72 19) v1) 72 19) 0) 72 19) v5) 72 19) + 1)) 72 19)) 88 ((gI (sI (sI (sI (sL (sL σ 87 (gI σ 72 19) v1) 88 (gI (sL σ 87 (gI σ 72 19) v1) 72 19) 0) 89 (gI (sL (sL σ 87 (gI σ 72 19) v1) 88 (gI (sL σ 87 (gI σ 72 19) v1) 72 19) 0) 72 19) v5) 72 19 ((gI (sI (sL (sL σ 87 (gI σ 72 19) v1) 88 (gI (sL σ 87 (gI σ 72 19) v1) 72 19) 0) 89 (gI (sL (sL σ 87 (gI σ 72 19) v1) 88 (gI (sL σ 87 (gI σ 72 19) v1) 72 19) 0) 72 19) v5) 72 19) + 1)) 86 v6 (gI (sI (sI (sL (sL σ 87 (gI σ 72 19) v1) 88 (gI (sL σ 87 (gI σ 72 19) v1) 72 19) 0) 89 (gI (sL (sL σ 87 (gI σ 72 19) v1) 88 (gI (sL σ 87 (gI σ 72 19) v1) 72 19) 0) 72 19) v5) 72 19 ((gI (sI (sL (sL σ 87 (gI σ 72 19) v1) 88 (gI (sL σ 87 (gI σ 72 19) v1) 72 19) 0) 89 (gI (sL (sL σ 87 (gI σ 72 19) v1) 88 (gI (sL σ 87 (gI σ 72 19) v1) 72 19) 0) 72 19) v5) 72 19) + 1)) 72 19)) 86 v6) - 1) ((gL (sI (sI (sI (sL (sL σ 87 (gI σ 72 19) v1) 88 (gI (sL σ 87 (gI σ 72 19) v1) 72 19) 0) 89 (gI (sL (sL σ 87 (gI σ 72 19) v1) 88 (gI (sL σ 87 (gI σ 72 19) v1) 72 19) 0) 72 19) v5) 72 19 ((gI (sI (sL (sL σ 87 (gI σ 72 19) v1) 88 (gI (sL σ 87 (gI σ 72 19) v1) 72 19) 0) 89 (gI (sL (sL σ 87 (gI σ 72 19) v1) 88 (gI (sL σ 87 (gI σ 72 19) v1) 72 19) 0) 72 19) v5) 72 19) + 1)) 86 v6 (gI (sI (sI (sL (sL σ 87 (gI σ 72 19) v1) 88 (gI (sL σ 87 (gI σ 72 19) v1) 72 19) 0) 89 (gI (sL (sL σ 87 (gI σ 72 19) v1) 88 (gI (sL σ 87 (gI σ 72 19) v1) 72 19) 0) 72 19) v5) 72 19 ((gI (sI (sL (sL σ 87 (gI σ 72 19) v1) 88 (gI (sL σ 87 (gI σ 72 19) v1) 72 19) 0) 89 (gI (sL (sL σ 87 (gI σ 72 19) v1) 88 (gI (sL σ 87 (gI σ 72 19) v1) 72 19) 0) 72 19) v5) 72 19) + 1)) 72 19)) 88 ((gI (sI (sI (sI (sL (sL σ 87 (gI σ 72 19) v1) 88 (gI (sL σ 87 (gI σ 72 19) v1) 72 19) 0) 89 (gI (sL (sL σ 87 (gI σ 72 19) v1) 88 (gI (sL σ 87 (gI σ 72 19) v1) 72 19) 0) 72 19) v5) 72 19 ((gI (sI (sL (sL σ 87 (gI σ 72 19) v1) 88 (gI (sL σ 87 (gI σ 72 19) v1) 72 19) 0) 89 (gI (sL (sL σ 87 (gI σ 72 19) v1) 88 (gI (sL σ 87 (gI σ 72 19) v1) 72 19) 0) 72 19) v5) 72 19) + 1)) 86 v6 (gI (sI (sI (sL (sL σ 87 (gI σ 72 19) v1) 88 (gI (sL σ 87 (gI σ 72 19) v1) 72 19) 0) 89 (gI (sL (sL σ 87 (gI σ 72 19) v1) 88 (gI (sL σ 87 (gI σ 72 19) v1) 72 19) 0) 72 19) v5) 72 19 ((gI (sI (sL (sL σ 87 (gI σ 72 19) v1) 88 (gI (sL σ 87 (gI σ 72 19) v1) 72 19) 0) 89 (gI (sL (sL σ 87 (gI σ 72 19) v1) 88 (gI (sL σ 87 (gI σ 72 19) v1) 72 19) 0) 72 19) v5) 72 19) + 1)) 72 19)) 86 v6) - 1)) + v3)) 89 ((gI (sI (sI (sI (sL (sL σ 87 (gI σ 72 19) v1) 88 (gI (sL σ 87 (gI σ 72 19) v1) 72 19) 0) 89 (gI (sL (sL σ 87 (gI σ 72 19) v1) 88 (gI (sL σ 87 (gI σ 72 19) v1) 72 19) 0) 72 19) v5) 72 19 ((gI (sI (sL (sL σ 87 (gI σ 72 19) v1) 88 (gI (sL σ 87 (gI σ 72 19) v1) 72 19) 0) 89 (gI (sL (sL σ 87 (gI σ 72 19) v1) 88 (gI (sL σ 87 (gI σ 72 19) v1) 72 19) 0) 72 19) v5) 72 19) + 1)) 86 v6 (gI (sI (sI (sL (sL σ 87 (gI σ 72 19) v1) 88 (gI (sL σ 87 (gI σ 72 19) v1) 72 19) 0) 89 (gI (sL (sL σ 87 (gI σ 72 19) v1) 88 (gI (sL σ 87 (gI σ 72 19) v1) 72 19) 0) 72 19) v5) 72 19 ((gI (sI (sL (sL σ 87 (gI σ 72 19) v1) 88 (gI (sL σ 87 (gI σ 72 19) v1) 72 19) 0) 89 (gI (sL (sL σ 87 (gI σ 72 19) v1) 88 (gI (sL σ 87 (gI σ 72 19) v1) 72 19) 0) 72 19) v5) 72 19) + 1)) 72 19)) 86 v6) - 1) (gI (sL (sI (sI (sI (sL (sL σ 87 (gI σ 72 19) v1) 88 (gI (sL σ 87 (gI σ 72 19) v1) 72 19) 0) 89 (gI (sL (sL σ 87 (gI σ 72 19) v1) 88 (gI (sL σ 87 (gI σ 72 19) v1) 72 19) 0) 72 19) v5) 72 19 ((gI (sI (sL (sL σ 87 (gI σ 72 19) v1) 88 (gI (sL σ 87 (gI σ 72 19) v1) 72 19) 0) 89 (gI (sL (sL σ 87 (gI σ 72 19) v1) 88 (gI (sL σ 87 (gI σ 72 19) v1) 72 19) 0) 72 19) v5) 72 19) + 1)) 86 v6 (gI (sI (sI (sL (sL σ 87 (gI σ 72 19) v1) 88 (gI (sL σ 87 (gI σ 72 19) v1) 72 19) 0) 89 (gI (sL (sL σ 87 (gI σ 72 19) v1) 88 (gI (sL σ 87 (gI σ 72 19) v1) 72 19) 0) 72 19) v5) 72 19 ((gI (sI (sL (sL σ 87 (gI σ 72 19) v1) 88 (gI (sL σ 87 (gI σ 72 19) v1) 72 19) 0) 89 (gI (sL (sL σ 87 (gI σ 72 19) v1) 88 (gI (sL σ 87 (gI σ 72 19) v1) 72 19) 0) 72 19) v5) 72 19) + 1)) 72 19)) 88 ((gI (sI (sI (sI (sL (sL σ 87 (gI σ 72 19) v1) 88 (gI (sL σ 87 (gI σ 72 19) v1) 72 19) 0) 89 (gI (sL (sL σ 87 (gI σ 72 19) v1) 88 (gI (sL σ 87 (gI σ 72 19) v1) 72 19) 0) 72 19) v5) 72 19 ((gI (sI (sL (sL σ 87 (gI σ 72 19) v1) 88 (gI (sL σ 87 (gI σ 72 19) v1) 72 19) 0) 89 (gI (sL (sL σ 87 (gI σ 72 19) v1) 88 (gI (sL σ 87 (gI σ 72 19) v1) 72 19) 0) 72 19) v5) 72 19) + 1)) 86 v6 (gI (sI (sI (sL (sL σ 87 (gI σ 72 19) v1) 88 (gI (sL σ 87 (gI σ 72 19) v1) 72 19) 0) 89 (gI (sL (sL σ 87 (gI σ 72 19) v1) 88 (gI (sL σ 87 (gI σ 72 19) v1) 72 19) 0) 72 19) v5) 72 19 ((gI (sI (sL (sL σ 87 (gI σ 72 19) v1) 88 (gI (sL σ 87 (gI σ 72 19) v1) 72 19) 0) 89 (gI (sL (sL σ 87 (gI σ 72 19) v1) 88 (gI (sL σ 87 (gI σ 72 19) v1) 72 19) 0) 72 19) v5) 72 19) + 1)) 72 19)) 86 v6) - 1) ((gL (sI (sI (sI (sL (sL σ 87 (gI σ 72 19) v1) 88 (gI (sL σ 87 (gI σ 72 19) v1) 72 19) 0) 89 (gI (sL (sL σ 87 (gI σ 72 19) v1) 88 (gI (sL σ 87 (gI σ 72 19) v1) 72 19) 0) 72 19) v5) 72 19 ((gI (sI (sL (sL σ 87 (gI σ 72 19) v1) 88 (gI (sL σ 87 (gI σ 72 19) v1) 72 19) 0) 89 (gI (sL (sL σ 87 (gI σ 72 19) v1) 88 (gI (sL σ 87 (gI σ 72 19) v1) 72 19) 0) 72 19) v5) 72 19) + 1)) 86 v6 (gI (sI (sI (sL (sL σ 87 (gI σ 72 19) v1) 88 (gI (sL σ 87 (gI σ 72 19) v1) 72 19) 0) 89 (gI (sL (sL σ 87 (gI σ 72 19) v1) 88 (gI (sL σ 87 (gI σ 72 19) v1) 72 19) 0) 72 19) v5) 72 19 ((gI (sI (sL (sL σ 87 (gI σ 72 19) v1) 88 (gI (sL σ 87 (gI σ 72 19) v1) 72 19) 0) 89 (gI (sL (sL σ 87 (gI σ 72 19) v1) 88 (gI (sL σ 87 (gI σ 72 19) v1) 72 19) 0) 72 19) v5) 72 19) + 1)) 72 19)) 88 ((gI (sI (sI (sI (sL (sL σ 87 (gI σ 72 19) v1) 88 (gI (sL σ 87 (gI σ 72 19) v1) 72 19) 0) 89 (gI (sL (sL σ 87 (gI σ 72 19) v1) 88 (gI (sL σ 87 (gI σ 72 19) v1) 72 19) 0) 72 19) v5) 72 19 ((gI (sI (sL (sL σ 87 (gI σ 72 19) v1) 88 (gI (sL σ 87 (gI σ 72 19) v1) 72 19) 0) 89 (gI (sL (sL σ 87 (gI σ 72 19) v1) 88 (gI (sL σ 87 (gI σ 72 19) v1) 72 19) 0) 72 19) v5) 72 19) + 1)) 86 v6 (gI (sI (sI (sL (sL σ 87 (gI σ 72 19) v1) 88 (gI (sL σ 87 (gI σ 72 19) v1) 72 19) 0) 89 (gI (sL (sL σ 87 (gI σ 72 19) v1) 88 (gI (sL σ 87 (gI σ 72 19) v1) 72 19) 0) 72 19) v5) 72 19 ((gI (sI (sL (sL σ 87 (gI σ 72 19) v1) 88 (gI (sL σ 87 (gI σ 72 19) v1) 72 19) 0) 89 (gI (sL (sL σ 87 (gI σ 72 19) v1) 88 (gI (sL σ 87 (gI σ 72 19) v1) 72 19) 0) 72 19) v5) 72 19) + 1)) 72 19)) 86 v6) - 1)) + v3)) 89 ((gI (sI (sI (sI (sL (sL σ 87 (gI σ 72 19) v1) 88 (gI (sL σ 87 (gI σ 72 19) v1) 72 19) 0) 89 (gI (sL (sL σ 87 (gI σ 72 19) v1) 88 (gI (sL σ 87 (gI σ 72 19) v1) 72 19) 0) 72 19) v5) 72 19 ((gI (sI (sL (sL σ 87 (gI σ 72 19) v1) 88 (gI (sL σ 87 (gI σ 72 19) v1) 72 19) 0) 89 (gI (sL (sL σ 87 (gI σ 72 19) v1) 88 (gI (sL σ 87 (gI σ 72 19) v1) 72 19) 0) 72 19) v5) 72 19) + 1)) 86 v6 (gI (sI (sI (sL (sL σ 87 (gI σ 72 19) v1) 88 (gI (sL σ 87 (gI σ 72 19) v1) 72 19) 0) 89 (gI (sL (sL σ 87 (gI σ 72 19) v1) 88 (gI (sL σ 87 (gI σ 72 19) v1) 72 19) 0) 72 19) v5) 72 19 ((gI (sI (sL (sL σ 87 (gI σ 72 19) v1) 88 (gI (sL σ 87 (gI σ 72 19) v1) 72 19) 0) 89 (gI (sL (sL σ 87 (gI σ 72 19) v1) 88 (gI (sL σ 87 (gI σ 72 19) v1) 72 19) 0) 72 19) v5) 72 19) + 1)) 72 19)) 86 v6) - 1)))) ∧ (v5 < (gI (sL (sI (sI (sI (sL (sL σ 87 (gI σ 72 19) v1) 88 (gI (sL σ 87 (gI σ 72 19) v1) 72 19) 0) 89 (gI (sL (sL σ 87 (gI σ 72 19) v1) 88 (gI (sL σ 87 (gI σ 72 19) v1) 72 19) 0) 72 19) v5) 72 19 ((gI (sI (sL (sL σ 87 (gI σ 72 19) v1) 88 (gI (sL σ 87 (gI σ 72 19) v1) 72 19) 0) 89 (gI (sL (sL σ 87 (gI σ 72 19) v1) 88 (gI (sL σ 87 (gI σ 72 19) v1) 72 19) 0) 72 19) v5) 72 19) + 1)) 86 v6 (gI (sI (sI (sL (sL σ 87 (gI σ 72 19) v1) 88 (gI (sL σ 87 (gI σ 72 19) v1) 72 19) 0) 89 (gI (sL (sL σ 87 (gI σ 72 19) v1) 88 (gI (sL σ 87 (gI σ 72 19) v1) 72 19) 0) 72 19) v5) 72 19 ((gI (sI (sL (sL σ 87 (gI σ 72 19) v1) 88 (gI (sL σ 87 (gI σ 72 19) v1) 72 19) 0) 89 (gI (sL (sL σ 87 (gI σ 72 19) v1) 88 (gI (sL σ 87 (gI σ 72 19) v1) 72 19) 0) 72 19) v5) 72 19) + 1)) 72 19)) 88 ((gI (sI (sI (sI (sL (sL σ 87 (gI σ 72 19) v1) 88 (gI (sL σ 87 (gI σ 72 19) v1) 72 19) 0) 89 (gI (sL (sL σ 87 (gI σ 72 19) v1) 88 (gI (sL σ 87 (gI σ 72 19) v1) 72 19) 0) 72 19) v5) 72 19 ((gI (sI (sL (sL σ 87 (gI σ 72 19) v1) 88 (gI (sL σ 87 (gI σ 72 19) v1) 72 19) 0) 89 (gI (sL (sL σ 87 (gI σ 72 19) v1) 88 (gI (sL σ 87 (gI σ 72 19) v1) 72 19) 0) 72 19) v5) 72 19) + 1)) 86 v6 (gI (sI (sI (sL (sL σ 87 (gI σ 72 19) v1) 88 (gI (sL σ 87 (gI σ 72 19) v1) 72 19) 0) 89 (gI (sL (sL σ 87 (gI σ 72 19) v1) 88 (gI (sL σ 87 (gI σ 72 19) v1) 72 19) 0) 72 19) v5) 72 19 ((gI (sI (sL (sL σ 87 (gI σ 72 19) v1) 88 (gI (sL σ 87 (gI σ 72 19) v1) 72 19) 0) 89 (gI (sL (sL σ 87 (gI σ 72 19) v1) 88 (gI (sL σ 87 (gI σ 72 19) v1) 72 19) 0) 72 19) v5) 72 19) + 1)) 72 19)) 86 v6) - 1) ((gL (sI (sI (sI (sL (sL σ 87 (gI σ 72 19) v1) 88 (gI (sL σ 87 (gI σ 72 19) v1) 72 19) 0) 89 (gI (sL (sL σ 87 (gI σ 72 19) v1) 88 (gI (sL σ 87 (gI σ 72 19) v1) 72 19) 0) 72 19) v5) 72 19 ((gI (sI (sL (sL σ 87 (gI σ 72 19) v1) 88 (gI (sL σ 87 (gI σ 72 19) v1) 72 19) 0) 89 (gI (sL (sL σ 87 (gI σ 72 19) v1) 88 (gI (sL σ 87 (gI σ 72 19) v1) 72 19) 0) 72 19) v5) 72 19) + 1)) 86 v6 (gI (sI (sI (sL (sL σ 87 (gI σ 72 19) v1) 88 (gI (sL σ 87 (gI σ 72 19) v1) 72 19) 0) 89 (gI (sL (sL σ 87 (gI σ 72 19) v1) 88 (gI (sL σ 87 (gI σ 72 19) v1) 72 19) 0) 72 19) v5) 72 19 ((gI (sI (sL (sL σ 87 (gI σ 72 19) v1) 88 (gI (sL σ 87 (gI σ 72 19) v1) 72 19) 0) 89 (gI (sL (sL σ 87 (gI σ 72 19) v1) 88 (gI (sL σ 87 (gI σ 72 19) v1) 72 19) 0) 72 19) v5) 72 19) + 1)) 72 19)) 88 ((gI (sI (sI (sI (sL (sL σ 87 (gI σ 72 19) v1) 88 (gI (sL σ 87 (gI σ 72 19) v1) 72 19) 0) 89 (gI (sL (sL σ 87 (gI σ 72 19) v1) 88 (gI (sL σ 87 (gI σ 72 19) v1) 72 19) 0) 72 19) v5) 72 19 ((gI (sI (sL (sL σ 87 (gI σ 72 19) v1) 88 (gI (sL σ 87 (gI σ 72 19) v1) 72 19) 0) 89 (gI (sL (sL σ 87 (gI σ 72 19) v1) 88 (gI (sL σ 87 (gI σ 72 19) v1) 72 19) 0) 72 19) v5) 72 19) + 1)) 86 v6 (gI (sI (sI (sL (sL σ 87 (gI σ 72 19) v1) 88 (gI (sL σ 87 (gI σ 72 19) v1) 72 19) 0) 89 (gI (sL (sL σ 87 (gI σ 72 19) v1) 88 (gI (sL σ 87 (gI σ 72 19) v1) 72 19) 0) 72 19) v5) 72 19 ((gI (sI (sL (sL σ 87 (gI σ 72 19) v1) 88 (gI (sL σ 87 (gI σ 72 19) v1) 72 19) 0) 89 (gI (sL (sL σ 87 (gI σ 72 19) v1) 88 (gI (sL σ 87 (gI σ 72 19) v1) 72 19) 0) 72 19) v5) 72 19) + 1)) 72 19)) 86 v6) - 1)) + v3)) 89 ((gI (sI (sI (sI (sL (sL σ 87 (gI σ 72 19) v1) 88 (gI (sL σ 87 (gI σ 72 19) v1) 72 19) 0) 89 (gI (sL (sL σ 87 (gI σ 72 19) v1) 88 (gI (sL σ 87 (gI σ 72 19) v1) 72 19) 0) 72 19) v5) 72 19 ((gI (sI (sL (sL σ 87 (gI σ 72 19) v1) 88 (gI (sL σ 87 (gI σ 72 19) v1) 72 19) 0) 89 (gI (sL (sL σ 87 (gI σ 72 19) v1) 88 (gI (sL σ 87 (gI σ 72 19) v1) 72 19) 0) 72 19) v5) 72 19) + 1)) 86 v6 (gI (sI (sI (sL (sL σ 87 (gI σ 72 19) v1) 88 (gI (sL σ 87 (gI σ 72 19) v1) 72 19) 0) 89 (gI (sL (sL σ 87 (gI σ 72 19) v1) 88 (gI (sL σ 87 (gI σ 72 19) v1) 72 19) 0) 72 19) v5) 72 19 ((gI (sI (sL (sL σ 87 (gI σ 72 19) v1) 88 (gI (sL σ 87 (gI σ 72 19) v1) 72 19) 0) 89 (gI (sL (sL σ 87 (gI σ 72 19) v1) 88 (gI (sL σ 87 (gI σ 72 19) v1) 72 19) 0) 72 19) v5) 72 19) + 1)) 72 19)) 86 v6) - 1)) → Q (sI (sL (sI (sI (sI (sL (sL σ 87 (gI σ 72 19) v1) 88 (gI (sL σ 87 (gI σ 72 19) v1) 72 19) 0) 89 (gI (sL (sL σ 87 (gI σ 72 19) v1) 88 (gI (sL σ 87 (gI σ 72 19) v1) 72 19) 0) 72 19) v5) 72 19 ((gI (sI (sL (sL σ 87 (gI σ 72 19) v1) 88 (gI (sL σ 87 (gI σ 72 19) v1) 72 19) 0) 89 (gI (sL (sL σ 87 (gI σ 72 19) v1) 88 (gI (sL σ 87 (gI σ 72 19) v1) 72 19) 0) 72 19) v5) 72 19) + 1)) 86 v6 (gI (sI (sI (sL (sL σ 87 (gI σ 72 19) v1) 88 (gI (sL σ 87 (gI σ 72 19) v1) 72 19) 0) 89 (gI (sL (sL σ 87 (gI σ 72 19) v1) 88 (gI (sL σ 87 (gI σ 72 19) v1) 72 19) 0) 72 19) v5) 72 19 ((gI (sI (sL (sL σ 87 (gI σ 72 19) v1) 88 (gI (sL σ 87 (gI σ 72 19) v1) 72 19) 0) 89 (gI (sL (sL σ 87 (gI σ 72 19) v1) 88 (gI (sL σ 87 (gI σ 72 19) v1) 72 19) 0) 72 19) v5) 72 19) + 1)) 72 19)) 88 ((gI (sI (sI (sI (sL (sL σ 87 (gI σ 72 19) v1) 88 (gI (sL σ 87 (gI σ 72 19) v1) 72 19) 0) 89 (gI (sL (sL σ 87 (gI σ 72 19) v1) 88 (gI (sL σ 87 (gI σ 72 19) v1) 72 19) 0) 72 19) v5) 72 19 ((gI (sI (sL (sL σ 87 (gI σ 72 19) v1) 88 (gI (sL σ 87 (gI σ 72 19) v1) 72 19) 0) 89 (gI (sL (sL σ 87 (gI σ 72 19) v1) 88 (gI (sL σ 87 (gI σ 72 19) v1) 72 19) 0) 72 19) v5) 72 19) + 1)) 86 v6 (gI (sI (sI (sL (sL σ 87 (gI σ 72 19) v1) 88 (gI (sL σ 87 (gI σ 72 19) v1) 72 19) 0) 89 (gI (sL (sL σ 87 (gI σ 72 19) v1) 88 (gI (sL σ 87 (gI σ 72 19) v1) 72 19) 0) 72 19) v5) 72 19 ((gI (sI (sL (sL σ 87 (gI σ 72 19) v1) 88 (gI (sL σ 87 (gI σ 72 19) v1) 72 19) 0) 89 (gI (sL (sL σ 87 (gI σ 72 19) v1) 88 (gI (sL σ 87 (gI σ 72 19) v1) 72 19) 0) 72 19) v5) 72 19) + 1)) 72 19)) 86 v6) - 1) ((gL (sI (sI (sI (sL (sL σ 87 (gI σ 72 19) v1) 88 (gI (sL σ 87 (gI σ 72 19) v1) 72 19) 0) 89 (gI (sL (sL σ 87 (gI σ 72 19) v1) 88 (gI (sL σ 87 (gI σ 72 19) v1) 72 19) 0) 72 19) v5) 72 19 ((gI (sI (sL (sL σ 87 (gI σ 72 19) v1) 88 (gI (sL σ 87 (gI σ 72 19) v1) 72 19) 0) 89 (gI (sL (sL σ 87 (gI σ 72 19) v1) 88 (gI (sL σ 87 (gI σ 72 19) v1) 72 19) 0) 72 19) v5) 72 19) + 1)) 86 v6 (gI (sI (sI (sL (sL σ 87 (gI σ 72 19) v1) 88 (gI (sL σ 87 (gI σ 72 19) v1) 72 19) 0) 89 (gI (sL (sL σ 87 (gI σ 72 19) v1) 88 (gI (sL σ 87 (gI σ 72 19) v1) 72 19) 0) 72 19) v5) 72 19 ((gI (sI (sL (sL σ 87 (gI σ 72 19) v1) 88 (gI (sL σ 87 (gI σ 72 19) v1) 72 19) 0) 89 (gI (sL (sL σ 87 (gI σ 72 19) v1) 88 (gI (sL σ 87 (gI σ 72 19) v1) 72 19) 0) 72 19) v5) 72 19) + 1)) 72 19)) 88 ((gI (sI (sI (sI (sL (sL σ 87 (gI σ 72 19) v1) 88 (gI (sL σ 87 (gI σ 72 19) v1) 72 19) 0) 89 (gI (sL (sL σ 87 (gI σ 72 19) v1) 88 (gI (sL σ 87 (gI σ 72 19) v1) 72 19) 0) 72 19) v5) 72 19 ((gI (sI (sL (sL σ 87 (gI σ 72 19) v1) 88 (gI (sL σ 87 (gI σ 72 19) v1) 72 19) 0) 89 (gI (sL (sL σ 87 (gI σ 72 19) v1) 88 (gI (sL σ 87 (gI σ 72 19) v1) 72 19) 0) 72 19) v5) 72 19) + 1)) 86 v6 (gI (sI (sI (sL (sL σ 87 (gI σ 72 19) v1) 88 (gI (sL σ 87 (gI σ 72 19) v1) 72 19) 0) 89 (gI (sL (sL σ 87 (gI σ 72 19) v1) 88 (gI (sL σ 87 (gI σ 72 19) v1) 72 19) 0) 72 19) v5) 72 19 ((gI (sI (sL (sL σ 87 (gI σ 72 19) v1) 88 (gI (sL σ 87 (gI σ 72 19) v1) 72 19) 0) 89 (gI (sL (sL σ 87 (gI σ 72 19) v1) 88 (gI (sL σ 87 (gI σ 72 19) v1) 72 19) 0) 72 19) v5) 72 19) + 1)) 72 19)) 86 v6) - 1)) + v3)) 89 ((gI (sI (sI (sI (sL (sL σ 87 (gI σ 72 19) v1) 88 (gI (sL σ 87 (gI σ 72 19) v1) 72 19) 0) 89 (gI (sL (sL σ 87 (gI σ 72 19) v1) 88 (gI (sL σ 87 (gI σ 72 19) v1) 72 19) 0) 72 19) v5) 72 19 ((gI (sI (sL (sL σ 87 (gI σ 72 19) v1) 88 (gI (sL σ 87 (gI σ 72 19) v1) 72 19) 0) 89 (gI (sL (sL σ 87 (gI σ 72 19) v1) 88 (gI (sL σ 87 (gI σ 72 19) v1) 72 19) 0) 72 19) v5) 72 19) + 1)) 86 v6 (gI (sI (sI (sL (sL σ 87 (gI σ 72 19) v1) 88 (gI (sL σ 87 (gI σ 72 19) v1) 72 19) 0) 89 (gI (sL (sL σ 87 (gI σ 72 19) v1) 88 (gI (sL σ 87 (gI σ 72 19) v1) 72 19) 0) 72 19) v5) 72 19 ((gI (sI (sL (sL σ 87 (gI σ 72 19) v1) 88 (gI (sL σ 87 (gI σ 72 19) v1) 72 19) 0) 89 (gI (sL (sL σ 87 (gI σ 72 19) v1) 88 (gI (sL σ 87 (gI σ 72 19) v1) 72 19) 0) 72 19) v5) 72 19) + 1)) 72 19)) 86 v6) - 1) v5)))))) ∧ ((gL σ 87 ((gI σ 86 v6) - 1)) ≠ v1 → Wx K_X8_leaves (QV Q) 12 [(0, .ref 72), (1, .long (lI v1)), (3, .long (lI v3)), (5, .int (iI v5)), (6, .int (iI ((v6 + 1) % 16384)))] [] σ))))) : Wx K_X8_leaves (QV Q) 12 [(0, .ref 72), (1, .long (lI v1)), (3, .long (lI v3)), (5, .int (iI v5)), (6, .int (iI v6))] [] σ := by
  intro p l e s m args below meth c D cA ad X0 hr hlk
  have X : Cx p s m args c (adA ad) D cA ad RX8 cX8_leaves 8 := X0
  refine g_aload_n X 0 dX8_leaves_12 rfl ?_
  refine g_getF X (f := 86) dX8_leaves_13 lf_X8_52 rfl rfl rfl ?_
  refine g_iload X 4 dX8_leaves_16 rfl ?_
  obtain ⟨q1, h⟩ := h
  refine g_iald X dX8_leaves_18 rfl q1.1 q1.2 ?_
  obtain ⟨q2, h⟩ := h
  refine g_if_le X (tgt := 54) dX8_leaves_19 (by decide) q2 (fun c3 => ?_) (fun c3 => ?_)
  · have h := h.1 c3
    refine g_aload_n X 0 dX8_leaves_54 rfl ?_
    refine g_getF X (f := 86) dX8_leaves_55 lf_X8_52 rfl rfl rfl ?_
    refine g_iload X 4 dX8_leaves_58 rfl ?_
    refine g_iald X dX8_leaves_60 rfl q1.1 q1.2 ?_
    refine g_if_ne X (tgt := 116) dX8_leaves_61 (by decide) q2 (fun c4 => ?_) (fun c4 => ?_)
    · have h := h.1 c4
      refine g_aload_n X 0 dX8_leaves_116 rfl ?_
      refine g_getF X (f := 86) dX8_leaves_117 lf_X8_52 rfl rfl rfl ?_
      refine g_iload X 4 dX8_leaves_120 rfl ?_
      refine g_iald X dX8_leaves_122 rfl q1.1 q1.2 ?_
      refine g_iconst X dX8_leaves_123 ?_
      refine g_isub X dX8_leaves_124 ?_
      refine g_istore X (lv' := [(7, .int (iI ((gI σ 86 v6) - 1))), (0, .ref 72), (1, .long (lI v1)), (3, .long (lI v3)), (5, .int (iI v5)), (6, .int (iI v6))]) dX8_leaves_125 (by decide) rfl ?_
      refine g_aload_n X 1 dX8_leaves_127 rfl ?_
      refine g_getF X (f := 88) dX8_leaves_128 lf_X8_58 rfl rfl rfl ?_
      refine g_iload X 0 dX8_leaves_131 rfl ?_
      refine g_dup2 X dX8_leaves_133 rfl rfl ?_
      obtain ⟨q5, h⟩ := h
      refine g_lald X dX8_leaves_134 rfl q5.1 q5.2 ?_
      refine g_lload_n X 3 dX8_leaves_135 rfl ?_
      refine g_ladd X dX8_leaves_136 ?_
      refine g_last X dX8_leaves_137 rfl q5.1 q5.2 ?_
      refine g_aload_n X 1 dX8_leaves_138 rfl ?_
      refine g_getF X (f := 89) dX8_leaves_139 lf_X8_61 rfl rfl rfl ?_
      refine g_iload X 0 dX8_leaves_142 rfl ?_
      refine g_iload X 4 dX8_leaves_144 rfl ?_
      refine g_aload_n X 1 dX8_leaves_146 rfl ?_
      refine g_getF X (f := 89) dX8_leaves_147 lf_X8_61 rfl rfl rfl ?_
      refine g_iload X 0 dX8_leaves_150 rfl ?_
      refine g_iald X dX8_leaves_152 rfl q5.1 q5.2 ?_
      obtain ⟨q6, h⟩ := h
      refine g_icmp_ge X (tgt := 161) dX8_leaves_153 (by decide) h32v5 q6 (fun c7 => ?_) (fun c7 => ?_)
      · have h := h.1 c7
        refine g_aload_n X 1 dX8_leaves_161 rfl ?_
        refine g_getF X (f := 89) dX8_leaves_162 lf_X8_61 rfl rfl rfl ?_
        refine g_iload X 0 dX8_leaves_165 rfl ?_
        refine g_iald X dX8_leaves_167 rfl q5.1 q5.2 ?_
        refine g_iast X dX8_leaves_168 rfl q5.1 q5.2 ?_
        exact g_vret X hr hlk dX8_leaves_169 ⟨rfl, h⟩
      · have h := h.2 c7
        refine g_iload X 4 dX8_leaves_156 rfl ?_
        refine g_goto X (tgt := 168) dX8_leaves_158 (by decide) ?_
        refine g_iast X dX8_leaves_168 rfl q5.1 q5.2 ?_
        exact g_vret X hr hlk dX8_leaves_169 ⟨rfl, h⟩
    · have h := h.2 c4
      refine g_aload_n X 0 dX8_leaves_64 rfl ?_
      refine g_getF X (f := 87) dX8_leaves_65 lf_X8_55 rfl rfl rfl ?_
      refine g_aload_n X 0 dX8_leaves_68 rfl ?_
      refine g_getI X (z := 19) dX8_leaves_69 lf_X8_219 rfl rfl rfl ?_
      refine g_lload_n X 1 dX8_leaves_72 rfl ?_
      obtain ⟨q8, h⟩ := h
      refine g_last X dX8_leaves_73 rfl q8.1 q8.2 ?_
      refine g_aload_n X 0 dX8_leaves_74 rfl ?_
      refine g_getF X (f := 88) dX8_leaves_75 lf_X8_58 rfl rfl rfl ?_
      refine g_aload_n X 0 dX8_leaves_78 rfl ?_
      refine g_getI X (z := 19) dX8_leaves_79 lf_X8_219 rfl rfl rfl ?_
      refine g_lconst X (z := 0) dX8_leaves_82 (by decide +kernel) ?_
      obtain ⟨q9, h⟩ := h
      refine g_last X dX8_leaves_83 rfl q9.1 q9.2 ?_
      refine g_aload_n X 0 dX8_leaves_84 rfl ?_
      refine g_getF X (f := 89) dX8_leaves_85 lf_X8_61 rfl rfl rfl ?_
      refine g_aload_n X 0 dX8_leaves_88 rfl ?_
      refine g_getI X (z := 19) dX8_leaves_89 lf_X8_219 rfl rfl rfl ?_
      refine g_iload X 3 dX8_leaves_92 rfl ?_
      obtain ⟨q10, h⟩ := h
      refine g_iast X dX8_leaves_94 rfl q10.1 q10.2 ?_
      refine g_aload_n X 0 dX8_leaves_95 rfl ?_
      refine g_dup X dX8_leaves_96 rfl ?_
      refine g_getI X (z := 19) dX8_leaves_97 lf_X8_219 rfl rfl rfl ?_
      refine g_iconst X dX8_leaves_100 ?_
      refine g_iadd X dX8_leaves_101 ?_
      refine g_putI X (j := 19) (z := 19) dX8_leaves_102 lp_X8_219 rfl rfl rfl ?_
      refine g_aload_n X 0 dX8_leaves_105 rfl ?_
      refine g_getF X (f := 86) dX8_leaves_106 lf_X8_52 rfl rfl rfl ?_
      refine g_iload X 4 dX8_leaves_109 rfl ?_
      refine g_aload_n X 0 dX8_leaves_111 rfl ?_
      refine g_getI X (z := 19) dX8_leaves_112 lf_X8_219 rfl rfl rfl ?_
      refine g_iast X dX8_leaves_115 rfl q1.1 q1.2 ?_
      refine g_aload_n X 0 dX8_leaves_116 rfl ?_
      refine g_getF X (f := 86) dX8_leaves_117 lf_X8_52 rfl rfl rfl ?_
      refine g_iload X 4 dX8_leaves_120 rfl ?_
      refine g_iald X dX8_leaves_122 rfl q1.1 q1.2 ?_
      refine g_iconst X dX8_leaves_123 ?_
      refine g_isub X dX8_leaves_124 ?_
      refine g_istore X (lv' := [(7, .int (iI ((gI (sI (sI (sI (sL (sL σ 87 (gI σ 72 19) v1) 88 (gI (sL σ 87 (gI σ 72 19) v1) 72 19) 0) 89 (gI (sL (sL σ 87 (gI σ 72 19) v1) 88 (gI (sL σ 87 (gI σ 72 19) v1) 72 19) 0) 72 19) v5) 72 19 ((gI (sI (sL (sL σ 87 (gI σ 72 19) v1) 88 (gI (sL σ 87 (gI σ 72 19) v1) 72 19) 0) 89 (gI (sL (sL σ 87 (gI σ 72 19) v1) 88 (gI (sL σ 87 (gI σ 72 19) v1) 72 19) 0) 72 19) v5) 72 19) + 1)) 86 v6 (gI (sI (sI (sL (sL σ 87 (gI σ 72 19) v1) 88 (gI (sL σ 87 (gI σ 72 19) v1) 72 19) 0) 89 (gI (sL (sL σ 87 (gI σ 72 19) v1) 88 (gI (sL σ 87 (gI σ 72 19) v1) 72 19) 0) 72 19) v5) 72 19 ((gI (sI (sL (sL σ 87 (gI σ 72 19) v1) 88 (gI (sL σ 87 (gI σ 72 19) v1) 72 19) 0) 89 (gI (sL (sL σ 87 (gI σ 72 19) v1) 88 (gI (sL σ 87 (gI σ 72 19) v1) 72 19) 0) 72 19) v5) 72 19) + 1)) 72 19)) 86 v6) - 1))), (0, .ref 72), (1, .long (lI v1)), (3, .long (lI v3)), (5, .int (iI v5)), (6, .int (iI v6))]) dX8_leaves_125 (by decide) rfl ?_
      refine g_aload_n X 1 dX8_leaves_127 rfl ?_
      refine g_getF X (f := 88) dX8_leaves_128 lf_X8_58 rfl rfl rfl ?_
      refine g_iload X 0 dX8_leaves_131 rfl ?_
      refine g_dup2 X dX8_leaves_133 rfl rfl ?_
      obtain ⟨q11, h⟩ := h
      refine g_lald X dX8_leaves_134 rfl q11.1 q11.2 ?_
      refine g_lload_n X 3 dX8_leaves_135 rfl ?_
      refine g_ladd X dX8_leaves_136 ?_
      refine g_last X dX8_leaves_137 rfl q11.1 q11.2 ?_
      refine g_aload_n X 1 dX8_leaves_138 rfl ?_
      refine g_getF X (f := 89) dX8_leaves_139 lf_X8_61 rfl rfl rfl ?_
      refine g_iload X 0 dX8_leaves_142 rfl ?_
      refine g_iload X 4 dX8_leaves_144 rfl ?_
      refine g_aload_n X 1 dX8_leaves_146 rfl ?_
      refine g_getF X (f := 89) dX8_leaves_147 lf_X8_61 rfl rfl rfl ?_
      refine g_iload X 0 dX8_leaves_150 rfl ?_
      refine g_iald X dX8_leaves_152 rfl q11.1 q11.2 ?_
      obtain ⟨q12, h⟩ := h
      refine g_icmp_ge X (tgt := 161) dX8_leaves_153 (by decide) h32v5 q12 (fun c13 => ?_) (fun c13 => ?_)
      · have h := h.1 c13
        refine g_aload_n X 1 dX8_leaves_161 rfl ?_
        refine g_getF X (f := 89) dX8_leaves_162 lf_X8_61 rfl rfl rfl ?_
        refine g_iload X 0 dX8_leaves_165 rfl ?_
        refine g_iald X dX8_leaves_167 rfl q11.1 q11.2 ?_
        refine g_iast X dX8_leaves_168 rfl q11.1 q11.2 ?_
        exact g_vret X hr hlk dX8_leaves_169 ⟨rfl, h⟩
      · have h := h.2 c13
        refine g_iload X 4 dX8_leaves_156 rfl ?_
        refine g_goto X (tgt := 168) dX8_leaves_158 (by decide) ?_
        refine g_iast X dX8_leaves_168 rfl q11.1 q11.2 ?_
        exact g_vret X hr hlk dX8_leaves_169 ⟨rfl, h⟩
  · have h := h.2 c3
    refine g_aload_n X 0 dX8_leaves_22 rfl ?_
    refine g_getF X (f := 87) dX8_leaves_23 lf_X8_55 rfl rfl rfl ?_
    refine g_aload_n X 0 dX8_leaves_26 rfl ?_
    refine g_getF X (f := 86) dX8_leaves_27 lf_X8_52 rfl rfl rfl ?_
    refine g_iload X 4 dX8_leaves_30 rfl ?_
    refine g_iald X dX8_leaves_32 rfl q1.1 q1.2 ?_
    refine g_iconst X dX8_leaves_33 ?_
    refine g_isub X dX8_leaves_34 ?_
    obtain ⟨q14, h⟩ := h
    refine g_lald X dX8_leaves_35 rfl q14.1 q14.2 ?_
    refine g_lload_n X 1 dX8_leaves_36 rfl ?_
    obtain ⟨q15, h⟩ := h
    refine g_lc_eq X (tgt := 54) dX8_leaves_37 dX8_leaves_38 (by decide) q15 h64v1 (fun c16 => ?_) (fun c16 => ?_)
    · have h := h.1 c16
      refine g_aload_n X 0 dX8_leaves_54 rfl ?_
      refine g_getF X (f := 86) dX8_leaves_55 lf_X8_52 rfl rfl rfl ?_
      refine g_iload X 4 dX8_leaves_58 rfl ?_
      refine g_iald X dX8_leaves_60 rfl q1.1 q1.2 ?_
      refine g_if_ne X (tgt := 116) dX8_leaves_61 (by decide) q2 (fun c17 => ?_) (fun c17 => ?_)
      · have h := h.1 c17
        refine g_aload_n X 0 dX8_leaves_116 rfl ?_
        refine g_getF X (f := 86) dX8_leaves_117 lf_X8_52 rfl rfl rfl ?_
        refine g_iload X 4 dX8_leaves_120 rfl ?_
        refine g_iald X dX8_leaves_122 rfl q1.1 q1.2 ?_
        refine g_iconst X dX8_leaves_123 ?_
        refine g_isub X dX8_leaves_124 ?_
        refine g_istore X (lv' := [(7, .int (iI ((gI σ 86 v6) - 1))), (0, .ref 72), (1, .long (lI v1)), (3, .long (lI v3)), (5, .int (iI v5)), (6, .int (iI v6))]) dX8_leaves_125 (by decide) rfl ?_
        refine g_aload_n X 1 dX8_leaves_127 rfl ?_
        refine g_getF X (f := 88) dX8_leaves_128 lf_X8_58 rfl rfl rfl ?_
        refine g_iload X 0 dX8_leaves_131 rfl ?_
        refine g_dup2 X dX8_leaves_133 rfl rfl ?_
        refine g_lald X dX8_leaves_134 rfl q14.1 q14.2 ?_
        refine g_lload_n X 3 dX8_leaves_135 rfl ?_
        refine g_ladd X dX8_leaves_136 ?_
        refine g_last X dX8_leaves_137 rfl q14.1 q14.2 ?_
        refine g_aload_n X 1 dX8_leaves_138 rfl ?_
        refine g_getF X (f := 89) dX8_leaves_139 lf_X8_61 rfl rfl rfl ?_
        refine g_iload X 0 dX8_leaves_142 rfl ?_
        refine g_iload X 4 dX8_leaves_144 rfl ?_
        refine g_aload_n X 1 dX8_leaves_146 rfl ?_
        refine g_getF X (f := 89) dX8_leaves_147 lf_X8_61 rfl rfl rfl ?_
        refine g_iload X 0 dX8_leaves_150 rfl ?_
        refine g_iald X dX8_leaves_152 rfl q14.1 q14.2 ?_
        obtain ⟨q18, h⟩ := h
        refine g_icmp_ge X (tgt := 161) dX8_leaves_153 (by decide) h32v5 q18 (fun c19 => ?_) (fun c19 => ?_)
        · have h := h.1 c19
          refine g_aload_n X 1 dX8_leaves_161 rfl ?_
          refine g_getF X (f := 89) dX8_leaves_162 lf_X8_61 rfl rfl rfl ?_
          refine g_iload X 0 dX8_leaves_165 rfl ?_
          refine g_iald X dX8_leaves_167 rfl q14.1 q14.2 ?_
          refine g_iast X dX8_leaves_168 rfl q14.1 q14.2 ?_
          exact g_vret X hr hlk dX8_leaves_169 ⟨rfl, h⟩
        · have h := h.2 c19
          refine g_iload X 4 dX8_leaves_156 rfl ?_
          refine g_goto X (tgt := 168) dX8_leaves_158 (by decide) ?_
          refine g_iast X dX8_leaves_168 rfl q14.1 q14.2 ?_
          exact g_vret X hr hlk dX8_leaves_169 ⟨rfl, h⟩
      · have h := h.2 c17
        refine g_aload_n X 0 dX8_leaves_64 rfl ?_
        refine g_getF X (f := 87) dX8_leaves_65 lf_X8_55 rfl rfl rfl ?_
        refine g_aload_n X 0 dX8_leaves_68 rfl ?_
        refine g_getI X (z := 19) dX8_leaves_69 lf_X8_219 rfl rfl rfl ?_
        refine g_lload_n X 1 dX8_leaves_72 rfl ?_
        obtain ⟨q20, h⟩ := h
        refine g_last X dX8_leaves_73 rfl q20.1 q20.2 ?_
        refine g_aload_n X 0 dX8_leaves_74 rfl ?_
        refine g_getF X (f := 88) dX8_leaves_75 lf_X8_58 rfl rfl rfl ?_
        refine g_aload_n X 0 dX8_leaves_78 rfl ?_
        refine g_getI X (z := 19) dX8_leaves_79 lf_X8_219 rfl rfl rfl ?_
        refine g_lconst X (z := 0) dX8_leaves_82 (by decide +kernel) ?_
        obtain ⟨q21, h⟩ := h
        refine g_last X dX8_leaves_83 rfl q21.1 q21.2 ?_
        refine g_aload_n X 0 dX8_leaves_84 rfl ?_
        refine g_getF X (f := 89) dX8_leaves_85 lf_X8_61 rfl rfl rfl ?_
        refine g_aload_n X 0 dX8_leaves_88 rfl ?_
        refine g_getI X (z := 19) dX8_leaves_89 lf_X8_219 rfl rfl rfl ?_
        refine g_iload X 3 dX8_leaves_92 rfl ?_
        obtain ⟨q22, h⟩ := h
        refine g_iast X dX8_leaves_94 rfl q22.1 q22.2 ?_
        refine g_aload_n X 0 dX8_leaves_95 rfl ?_
        refine g_dup X dX8_leaves_96 rfl ?_
        refine g_getI X (z := 19) dX8_leaves_97 lf_X8_219 rfl rfl rfl ?_
        refine g_iconst X dX8_leaves_100 ?_
        refine g_iadd X dX8_leaves_101 ?_
        refine g_putI X (j := 19) (z := 19) dX8_leaves_102 lp_X8_219 rfl rfl rfl ?_
        refine g_aload_n X 0 dX8_leaves_105 rfl ?_
        refine g_getF X (f := 86) dX8_leaves_106 lf_X8_52 rfl rfl rfl ?_
        refine g_iload X 4 dX8_leaves_109 rfl ?_
        refine g_aload_n X 0 dX8_leaves_111 rfl ?_
        refine g_getI X (z := 19) dX8_leaves_112 lf_X8_219 rfl rfl rfl ?_
        refine g_iast X dX8_leaves_115 rfl q1.1 q1.2 ?_
        refine g_aload_n X 0 dX8_leaves_116 rfl ?_
        refine g_getF X (f := 86) dX8_leaves_117 lf_X8_52 rfl rfl rfl ?_
        refine g_iload X 4 dX8_leaves_120 rfl ?_
        refine g_iald X dX8_leaves_122 rfl q1.1 q1.2 ?_
        refine g_iconst X dX8_leaves_123 ?_
        refine g_isub X dX8_leaves_124 ?_
        refine g_istore X (lv' := [(7, .int (iI ((gI (sI (sI (sI (sL (sL σ 87 (gI σ 72 19) v1) 88 (gI (sL σ 87 (gI σ 72 19) v1) 72 19) 0) 89 (gI (sL (sL σ 87 (gI σ 72 19) v1) 88 (gI (sL σ 87 (gI σ 72 19) v1) 72 19) 0) 72 19) v5) 72 19 ((gI (sI (sL (sL σ 87 (gI σ 72 19) v1) 88 (gI (sL σ 87 (gI σ 72 19) v1) 72 19) 0) 89 (gI (sL (sL σ 87 (gI σ 72 19) v1) 88 (gI (sL σ 87 (gI σ 72 19) v1) 72 19) 0) 72 19) v5) 72 19) + 1)) 86 v6 (gI (sI (sI (sL (sL σ 87 (gI σ 72 19) v1) 88 (gI (sL σ 87 (gI σ 72 19) v1) 72 19) 0) 89 (gI (sL (sL σ 87 (gI σ 72 19) v1) 88 (gI (sL σ 87 (gI σ 72 19) v1) 72 19) 0) 72 19) v5) 72 19 ((gI (sI (sL (sL σ 87 (gI σ 72 19) v1) 88 (gI (sL σ 87 (gI σ 72 19) v1) 72 19) 0) 89 (gI (sL (sL σ 87 (gI σ 72 19) v1) 88 (gI (sL σ 87 (gI σ 72 19) v1) 72 19) 0) 72 19) v5) 72 19) + 1)) 72 19)) 86 v6) - 1))), (0, .ref 72), (1, .long (lI v1)), (3, .long (lI v3)), (5, .int (iI v5)), (6, .int (iI v6))]) dX8_leaves_125 (by decide) rfl ?_
        refine g_aload_n X 1 dX8_leaves_127 rfl ?_
        refine g_getF X (f := 88) dX8_leaves_128 lf_X8_58 rfl rfl rfl ?_
        refine g_iload X 0 dX8_leaves_131 rfl ?_
        refine g_dup2 X dX8_leaves_133 rfl rfl ?_
        obtain ⟨q23, h⟩ := h
        refine g_lald X dX8_leaves_134 rfl q23.1 q23.2 ?_
        refine g_lload_n X 3 dX8_leaves_135 rfl ?_
        refine g_ladd X dX8_leaves_136 ?_
        refine g_last X dX8_leaves_137 rfl q23.1 q23.2 ?_
        refine g_aload_n X 1 dX8_leaves_138 rfl ?_
        refine g_getF X (f := 89) dX8_leaves_139 lf_X8_61 rfl rfl rfl ?_
        refine g_iload X 0 dX8_leaves_142 rfl ?_
        refine g_iload X 4 dX8_leaves_144 rfl ?_
        refine g_aload_n X 1 dX8_leaves_146 rfl ?_
        refine g_getF X (f := 89) dX8_leaves_147 lf_X8_61 rfl rfl rfl ?_
        refine g_iload X 0 dX8_leaves_150 rfl ?_
        refine g_iald X dX8_leaves_152 rfl q23.1 q23.2 ?_
        obtain ⟨q24, h⟩ := h
        refine g_icmp_ge X (tgt := 161) dX8_leaves_153 (by decide) h32v5 q24 (fun c25 => ?_) (fun c25 => ?_)
        · have h := h.1 c25
          refine g_aload_n X 1 dX8_leaves_161 rfl ?_
          refine g_getF X (f := 89) dX8_leaves_162 lf_X8_61 rfl rfl rfl ?_
          refine g_iload X 0 dX8_leaves_165 rfl ?_
          refine g_iald X dX8_leaves_167 rfl q23.1 q23.2 ?_
          refine g_iast X dX8_leaves_168 rfl q23.1 q23.2 ?_
          exact g_vret X hr hlk dX8_leaves_169 ⟨rfl, h⟩
        · have h := h.2 c25
          refine g_iload X 4 dX8_leaves_156 rfl ?_
          refine g_goto X (tgt := 168) dX8_leaves_158 (by decide) ?_
          refine g_iast X dX8_leaves_168 rfl q23.1 q23.2 ?_
          exact g_vret X hr hlk dX8_leaves_169 ⟨rfl, h⟩
    · have h := h.2 c16
      refine g_iload X 4 dX8_leaves_41 rfl ?_
      refine g_iconst X dX8_leaves_43 ?_
      refine g_iadd X dX8_leaves_44 ?_
      refine g_sipush X dX8_leaves_45 (by decide +kernel) ?_
      refine g_iand14 X dX8_leaves_48 ?_
      refine g_istore X (lv' := [(6, .int (iI ((v6 + 1) % 16384))), (0, .ref 72), (1, .long (lI v1)), (3, .long (lI v3)), (5, .int (iI v5))]) dX8_leaves_49 (by decide) rfl ?_
      refine g_goto X (tgt := 12) dX8_leaves_51 (by decide) ?_
      exact g_sub (lv' := [(0, .ref 72), (1, .long (lI v1)), (3, .long (lI v3)), (5, .int (iI v5)), (6, .int (iI ((v6 + 1) % 16384)))]) [1, 2, 3, 4, 0] rfl (h p l e s m args below meth c D cA ad X0 hr hlk)
