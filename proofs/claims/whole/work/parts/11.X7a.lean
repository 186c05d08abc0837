/-! by program: the block rules of class 7, part 0 -/
theorem bX7_isWithin_0 {v0 : Int} {v1 : Int} {v2 : Int} {σ : ASt} {QT QF : ASt → Prop} (h32v0 : i32 v0) (h32v1 : i32 v1) (h32v2 : i32 v2) (h : ((v0 < v1 → QF σ) ∧ (v1 ≤ v0 → ((v2 < v0 → QF σ) ∧ (v0 ≤ v2 → QT σ))))) : Wx K_X7_isWithin (QZ QT QF) 0 [(0, .int (iI v0)), (1, .int (iI v1)), (2, .int (iI v2))] [] σ := by
  intro p l e s m args below meth c D cA ad X0 hr hlk
  have X : Cx p s m args c (adA ad) D cA ad RX7 cX7_isWithin 3 := X0
  refine g_iload_n X 0 dX7_isWithin_0 rfl ?_
  refine g_iload_n X 1 dX7_isWithin_1 rfl ?_
  refine g_icmp_lt X (tgt := 14) dX7_isWithin_2 (by decide) h32v0 h32v1 (fun c1 => ?_) (fun c1 => ?_)
  · have h := h.1 c1
    refine g_iconst X dX7_isWithin_14 ?_
    exact g_iret X hr hlk dX7_isWithin_15 rfl (Or.inr ⟨rfl, h⟩)
  · have h := h.2 c1
    refine g_iload_n X 0 dX7_isWithin_5 rfl ?_
    refine g_iload_n X 2 dX7_isWithin_6 rfl ?_
    refine g_icmp_gt X (tgt := 14) dX7_isWithin_7 (by decide) h32v0 h32v2 (fun c2 => ?_) (fun c2 => ?_)
    · have h := h.1 c2
      refine g_iconst X dX7_isWithin_14 ?_
      exact g_iret X hr hlk dX7_isWithin_15 rfl (Or.inr ⟨rfl, h⟩)
    · have h := h.2 c2
      refine g_iconst X dX7_isWithin_10 ?_
      refine g_goto X (tgt := 15) dX7_isWithin_11 (by decide) ?_
      exact g_iret X hr hlk dX7_isWithin_15 rfl (Or.inl ⟨rfl, h⟩)
theorem eX7_isWithin {v0 : Int} {v1 : Int} {v2 : Int} {σ : ASt} {QT QF : ASt → Prop} (h32v0 : i32 v0) (h32v1 : i32 v1) (h32v2 : i32 v2) (h : ((v0 < v1 → QF σ) ∧ (v1 ≤ v0 → ((v2 < v0 → QF σ) ∧ (v0 ≤ v2 → QT σ))))) : EvZ K_X7_isWithin [.int (iI v0), .int (iI v1), .int (iI v2)] σ QT QF := Ev.of rfl (Nat.le_of_ble_eq_true rfl) rfl (bX7_isWithin_0 h32v0 h32v1 h32v2 h)
theorem bX7_addInto_0 {a0 : Nat} {a1 : Nat} {a2 : Nat} {σ : ASt} {QT QF : ASt → Prop} (ha0 : shp a0 = (1, 0, 43)) (ha1 : shp a1 = (1, 0, 43)) (ha2 : shp a2 = (1, 0, 43)) (h : Wx K_X7_addInto (QZ QT QF) 2 [(0, .ref a0), (1, .ref a1), (2, .ref a2), (3, .int (iI 0))] [] σ) : Wx K_X7_addInto (QZ QT QF) 0 [(0, .ref a0), (1, .ref a1), (2, .ref a2)] [] σ := by
  intro p l e s m args below meth c D cA ad X0 hr hlk
  have X : Cx p s m args c (adA ad) D cA ad RX7 cX7_addInto 4 := X0
  refine g_iconst X dX7_addInto_0 ?_
  refine g_istore_n X (lv' := [(3, .int (iI 0)), (0, .ref a0), (1, .ref a1), (2, .ref a2)]) dX7_addInto_1 (by decide) rfl ?_
  exact g_sub (lv' := [(0, .ref a0), (1, .ref a1), (2, .ref a2), (3, .int (iI 0))]) [1, 2, 3, 0] rfl (h p l e s m args below meth c D cA ad X0 hr hlk)
theorem eX7_addInto {a0 : Nat} {a1 : Nat} {a2 : Nat} {σ : ASt} {QT QF : ASt → Prop} (ha0 : shp a0 = (1, 0, 43)) (ha1 : shp a1 = (1, 0, 43)) (ha2 : shp a2 = (1, 0, 43)) (h : Wx K_X7_addInto (QZ QT QF) 2 [(0, .ref a0), (1, .ref a1), (2, .ref a2), (3, .int (iI 0))] [] σ) : EvZ K_X7_addInto [.ref a0, .ref a1, .ref a2] σ QT QF := Ev.of rfl (Nat.le_of_ble_eq_true rfl) rfl (bX7_addInto_0 ha0 ha1 ha2 h)
theorem bX7_addInto_2 {a0 : Nat} {a1 : Nat} {a2 : Nat} {v3 : Int} {σ : ASt} {QT QF : ASt → Prop} (ha0 : shp a0 = (1, 0, 43)) (ha1 : shp a1 = (1, 0, 43)) (ha2 : shp a2 = (1, 0, 43)) (h32v3 : i32 v3) (h : ((43 ≤ v3 → QT σ) ∧ (v3 < 43 → ((43 ≤ v3 → QT σ) ∧ (v3 < 43 → ((43 ≤ v3 → QT σ) ∧ (v3 < 43 → ((0 : Int) ≤ v3 ∧ v3 < 43) ∧ i32 ((gI (sI σ a0 v3 ((gI σ a1 v3) + (gI σ a2 v3))) a0 v3)) ∧ (((gI (sI σ a0 v3 ((gI σ a1 v3) + (gI σ a2 v3))) a0 v3) ≤ 99 → Wx K_X7_addInto (QZ QT QF) 2 [(0, .ref a0), (1, .ref a1), (2, .ref a2), (3, .int (iI (v3 + 1)))] [] (sI σ a0 v3 ((gI σ a1 v3) + (gI σ a2 v3)))) ∧ (99 < (gI (sI σ a0 v3 ((gI σ a1 v3) + (gI σ a2 v3))) a0 v3) → QF (sI σ a0 v3 ((gI σ a1 v3) + (gI σ a2 v3)))))))))))) : Wx K_X7_addInto (QZ QT QF) 2 [(0, .ref a0), (1, .ref a1), (2, .ref a2), (3, .int (iI v3))] [] σ := by
  intro p l e s m args below meth c D cA ad X0 hr hlk
  have X : Cx p s m args c (adA ad) D cA ad RX7 cX7_addInto 4 := X0
  refine g_iload_n X 3 dX7_addInto_2 rfl ?_
  refine g_aload_n X 0 dX7_addInto_3 rfl ?_
  refine g_alen1 X (z := 43) dX7_addInto_4 ha0 rfl ?_
  refine g_icmp_ge X (tgt := 46) dX7_addInto_5 (by decide) h32v3 (by omega) (fun c1 => ?_) (fun c1 => ?_)
  · have h := h.1 c1
    refine g_iconst X dX7_addInto_46 ?_
    exact g_iret X hr hlk dX7_addInto_47 rfl (Or.inl ⟨rfl, h⟩)
  · have h := h.2 c1
    refine g_iload_n X 3 dX7_addInto_8 rfl ?_
    refine g_aload_n X 1 dX7_addInto_9 rfl ?_
    refine g_alen1 X (z := 43) dX7_addInto_10 ha1 rfl ?_
    refine g_icmp_ge X (tgt := 46) dX7_addInto_11 (by decide) h32v3 (by omega) (fun c2 => ?_) (fun c2 => ?_)
    · have h := h.1 c2
      refine g_iconst X dX7_addInto_46 ?_
      exact g_iret X hr hlk dX7_addInto_47 rfl (Or.inl ⟨rfl, h⟩)
    · have h := h.2 c2
      refine g_iload_n X 3 dX7_addInto_14 rfl ?_
      refine g_aload_n X 2 dX7_addInto_15 rfl ?_
      refine g_alen1 X (z := 43) dX7_addInto_16 ha2 rfl ?_
      refine g_icmp_ge X (tgt := 46) dX7_addInto_17 (by decide) h32v3 (by omega) (fun c3 => ?_) (fun c3 => ?_)
      · have h := h.1 c3
        refine g_iconst X dX7_addInto_46 ?_
        exact g_iret X hr hlk dX7_addInto_47 rfl (Or.inl ⟨rfl, h⟩)
      · have h := h.2 c3
        refine g_aload_n X 0 dX7_addInto_20 rfl ?_
        refine g_iload_n X 3 dX7_addInto_21 rfl ?_
        refine g_aload_n X 1 dX7_addInto_22 rfl ?_
        refine g_iload_n X 3 dX7_addInto_23 rfl ?_
        obtain ⟨q4, h⟩ := h
        refine g_iald X dX7_addInto_24 ha1 q4.1 q4.2 ?_
        refine g_aload_n X 2 dX7_addInto_25 rfl ?_
        refine g_iload_n X 3 dX7_addInto_26 rfl ?_
        refine g_iald X dX7_addInto_27 ha2 q4.1 q4.2 ?_
        refine g_iadd X dX7_addInto_28 ?_
        refine g_iast X dX7_addInto_29 ha0 q4.1 q4.2 ?_
        refine g_aload_n X 0 dX7_addInto_30 rfl ?_
        refine g_iload_n X 3 dX7_addInto_31 rfl ?_
        refine g_iald X dX7_addInto_32 ha0 q4.1 q4.2 ?_
        refine g_bipush X dX7_addInto_33 (by decide +kernel) ?_
        obtain ⟨q5, h⟩ := h
        refine g_icmp_le X (tgt := 40) dX7_addInto_35 (by decide) q5 (by omega) (fun c6 => ?_) (fun c6 => ?_)
        · have h := h.1 c6
          refine g_iinc X (x := v3) (lv' := [(3, .int (iI (v3 + 1))), (0, .ref a0), (1, .ref a1), (2, .ref a2)]) 3 dX7_addInto_40 rfl (by decide) rfl ?_
          refine g_goto X (tgt := 2) dX7_addInto_43 (by decide) ?_
          exact g_sub (lv' := [(0, .ref a0), (1, .ref a1), (2, .ref a2), (3, .int (iI (v3 + 1)))]) [1, 2, 3, 0] rfl (h p l e s m args below meth c D cA ad X0 hr hlk)
        · have h := h.2 c6
          refine g_iconst X dX7_addInto_38 ?_
          exact g_iret X hr hlk dX7_addInto_39 rfl (Or.inr ⟨rfl, h⟩)
theorem bX7_reelAt_0 {v1 : Int} {σ : ASt} {Qn : ASt → Prop} {Qs : Nat → ASt → Prop}  (h : EvZ K_X7_isWithin [.int (iI v1), .int (iI 0), .int (iI 5)] σ (fun s1 => ((0 : Int) ≤ v1 ∧ v1 < 6) ∧ Qs (42 + (v1).toNat) s1) (fun s1 => Qn s1)) : Wx K_X7_reelAt (QR 4 Qn Qs) 0 [(0, .ref 0), (1, .int (iI v1))] [] σ := by
  intro p l e s m args below meth c D cA ad X0 hr hlk
  have X : Cx p s m args c (adA ad) D cA ad RX7 cX7_reelAt 2 := X0
  refine g_iload_n X 1 dX7_reelAt_0 rfl ?_
  refine g_iconst X dX7_reelAt_1 ?_
  refine g_iconst X dX7_reelAt_2 ?_
  refine g_cSZ X (K := K_X7_isWithin) [.int (iI v1), .int (iI 0), .int (iI 5)] [] dX7_reelAt_3 ls_X7_102 rm_X7_reelAt_X7_isWithin ⟨by decide, by decide⟩ adA_id rfl (Nat.le_of_ble_eq_true rfl) rfl h (fun s1 h => ?_) (fun s1 h => ?_)
  · skip
    refine g_if_eq X (tgt := 18) dX7_reelAt_6 (by decide) (by omega) (fun hc => absurd hc (by decide)) (fun _ => ?_)
    refine g_aload_n X 0 dX7_reelAt_9 rfl ?_
    refine g_getF X (f := 3) dX7_reelAt_10 lf_X7_19 rfl rfl rfl ?_
    refine g_iload_n X 1 dX7_reelAt_13 rfl ?_
    obtain ⟨q2, h⟩ := h
    refine g_aald X (f := (42 + (v1).toNat)) dX7_reelAt_14 rfl (by decide) q2.1 q2.2 rfl ?_
    refine g_goto X (tgt := 19) dX7_reelAt_15 (by decide) ?_
    exact g_aret X hr hlk dX7_reelAt_19 (Or.inr ⟨_, rfl, (se_3 q2.1 q2.2), h⟩)
  · skip
    refine g_if_eq X (tgt := 18) dX7_reelAt_6 (by decide) (by omega) (fun _ => ?_) (fun hc => absurd hc (by decide))
    refine g_null X dX7_reelAt_18 ?_
    exact g_aretN X hr hlk dX7_reelAt_19 (Or.inl ⟨rfl, h⟩)
theorem eX7_reelAt {v1 : Int} {σ : ASt} {Qn : ASt → Prop} {Qs : Nat → ASt → Prop}  (h : EvZ K_X7_isWithin [.int (iI v1), .int (iI 0), .int (iI 5)] σ (fun s1 => ((0 : Int) ≤ v1 ∧ v1 < 6) ∧ Qs (42 + (v1).toNat) s1) (fun s1 => Qn s1)) : EvR 4 K_X7_reelAt [.ref 0, .int (iI v1)] σ Qn Qs := Ev.of rfl (Nat.le_of_ble_eq_true rfl) rfl (bX7_reelAt_0  h)
theorem bX7_at_0 {v1 : Int} {v2 : Int} {σ : ASt} {Q : Int → ASt → Prop}  (h : EvR 4 K_X7_reelAt [.ref 0, .int (iI v1)] σ (fun s1 => Q (-2) s1) (fun r2 s1 => ((gP s1 r2 0 = none → Q (-11) s1) ∧ (∀ r4 : Nat, gP s1 r2 0 = some r4 → shp r4 = (0, 0, 0) ∧ EvZ K_X0_hasPlace [.ref r4, .int (iI v2)] s1 (fun s7 => ((0 : Int) ≤ v2 ∧ v2 < 43) ∧ i32 ((gI s7 (r2 + 12) v2)) ∧ Q (gI s7 (r2 + 12) v2) s7) (fun s7 => Q (-12) s7))))) : Wx K_X7_at (QI Q) 0 [(0, .ref 0), (1, .int (iI v1)), (2, .int (iI v2))] [] σ := by
  intro p l e s m args below meth c D cA ad X0 hr hlk
  have X : Cx p s m args c (adA ad) D cA ad RX7 cX7_at 5 := X0
  refine g_aload_n X 0 dX7_at_0 rfl ?_
  refine g_iload_n X 1 dX7_at_1 rfl ?_
  refine g_cVR X (K := K_X7_reelAt) [.int (iI v1)] [] dX7_at_2 lv_X7_87 rm_X7_at_X7_reelAt ⟨by decide, by decide⟩ adA_id rfl rfl rfl (Nat.le_of_ble_eq_true rfl) rfl h (fun s1 h => ?_) (fun r2 s1 q3 h => ?_)
  · skip
    refine g_astore_nN X (lv' := [(3, .null), (0, .ref 0), (1, .int (iI v1)), (2, .int (iI v2))]) dX7_at_5 (by decide) rfl ?_
    refine g_aload_nN X 0 dX7_at_6 rfl ?_
    refine g_ifnonnullN X dX7_at_7 ?_
    refine g_bipush X dX7_at_10 (by decide +kernel) ?_
    exact g_iret X hr hlk dX7_at_12 rfl ⟨_, rfl, (by omega), h⟩
  · skip
    refine g_astore_n X (lv' := [(3, .ref r2), (0, .ref 0), (1, .int (iI v1)), (2, .int (iI v2))]) dX7_at_5 (by decide) rfl ?_
    refine g_aload_n X 0 dX7_at_6 rfl ?_
    refine g_ifnonnull X (tgt := 13) dX7_at_7 (by decide) ?_
    refine g_aload_n X 0 dX7_at_13 rfl ?_
    refine g_getP X dX7_at_14 lf_X7_91 q3 rfl (fun c5 => ?_) (fun r4 c5 => ?_)
    · have h := h.1 c5
      refine g_astoreN X (lv' := [(4, .null), (3, .ref r2), (0, .ref 0), (1, .int (iI v1)), (2, .int (iI v2))]) dX7_at_17 (by decide) rfl ?_
      refine g_aloadN X 0 dX7_at_19 rfl ?_
      refine g_ifnonnullN X dX7_at_21 ?_
      refine g_bipush X dX7_at_24 (by decide +kernel) ?_
      exact g_iret X hr hlk dX7_at_26 rfl ⟨_, rfl, (by omega), h⟩
    · obtain ⟨q6, h⟩ := h.2 r4 c5
      refine g_astore X (lv' := [(4, .ref r4), (3, .ref r2), (0, .ref 0), (1, .int (iI v1)), (2, .int (iI v2))]) dX7_at_17 (by decide) rfl ?_
      refine g_aload X 0 dX7_at_19 rfl ?_
      refine g_ifnonnull X (tgt := 27) dX7_at_21 (by decide) ?_
      refine g_aload X 0 dX7_at_27 rfl ?_
      refine g_iload_n X 4 dX7_at_29 rfl ?_
      refine g_cVZ X (K := K_X0_hasPlace) [.int (iI v2)] [] dX7_at_30 lv_X7_113 rm_X7_at_X0_hasPlace ⟨by decide, by decide⟩ adA_id q6 rfl rfl (Nat.le_of_ble_eq_true rfl) rfl h (fun s7 h => ?_) (fun s7 h => ?_)
      · skip
        refine g_if_eq X (tgt := 45) dX7_at_33 (by decide) (by omega) (fun hc => absurd hc (by decide)) (fun _ => ?_)
        refine g_aload_n X 1 dX7_at_36 rfl ?_
        refine g_getF X (f := (r2 + 12)) dX7_at_37 lf_X7_144 q3 rfl (fn_4_1 q3) ?_
        refine g_iload_n X 4 dX7_at_40 rfl ?_
        obtain ⟨q8, h⟩ := h
        refine g_iald X dX7_at_41 (sf_4_1 q3) q8.1 q8.2 ?_
        refine g_goto X (tgt := 47) dX7_at_42 (by decide) ?_
        obtain ⟨q9, h⟩ := h
        exact g_iret X hr hlk dX7_at_47 rfl ⟨_, rfl, q9, h⟩
      · skip
        refine g_if_eq X (tgt := 45) dX7_at_33 (by decide) (by omega) (fun _ => ?_) (fun hc => absurd hc (by decide))
        refine g_bipush X dX7_at_45 (by decide +kernel) ?_
        exact g_iret X hr hlk dX7_at_47 rfl ⟨_, rfl, (by omega), h⟩
theorem eX7_at {v1 : Int} {v2 : Int} {σ : ASt} {Q : Int → ASt → Prop}  (h : EvR 4 K_X7_reelAt [.ref 0, .int (iI v1)] σ (fun s1 => Q (-2) s1) (fun r2 s1 => ((gP s1 r2 0 = none → Q (-11) s1) ∧ (∀ r4 : Nat, gP s1 r2 0 = some r4 → shp r4 = (0, 0, 0) ∧ EvZ K_X0_hasPlace [.ref r4, .int (iI v2)] s1 (fun s7 => ((0 : Int) ≤ v2 ∧ v2 < 43) ∧ i32 ((gI s7 (r2 + 12) v2)) ∧ Q (gI s7 (r2 + 12) v2) s7) (fun s7 => Q (-12) s7))))) : EvI K_X7_at [.ref 0, .int (iI v1), .int (iI v2)] σ Q := Ev.of rfl (Nat.le_of_ble_eq_true rfl) rfl (bX7_at_0  h)
theorem bX7_back_0 {σ : ASt} {Q : Int → ASt → Prop}  (h : i32 ((gI σ 11 2)) ∧ (((gI σ 11 2) ≠ 0 → EvI K_X1_latestReel [.ref 11] σ (fun x4 s3 => EvR 4 K_X7_reelAt [.ref 0, .int (iI x4)] s3 (fun s6 => i32 ((gI s6 11 2)) ∧ Q (gI s6 11 2) s6) (fun r7 s6 => EvV K_X1_takeLatest [.ref 11, .ref (r7 + 12)] s6 (fun s10 => i32 ((gI s10 11 2)) ∧ Q (gI s10 11 2) s10)))) ∧ ((gI σ 11 2) = 0 → Q (-3) σ))) : Wx K_X7_back (QI Q) 0 [(0, .ref 0)] [] σ := by
  intro p l e s m args below meth c D cA ad X0 hr hlk
  have X : Cx p s m args c (adA ad) D cA ad RX7 cX7_back 2 := X0
  refine g_aload_n X 0 dX7_back_0 rfl ?_
  refine g_getF X (f := 11) dX7_back_1 lf_X7_39 rfl rfl rfl ?_
  refine g_getI X (z := 2) dX7_back_4 lf_X7_246 rfl rfl rfl ?_
  obtain ⟨q1, h⟩ := h
  refine g_if_ne X (tgt := 13) dX7_back_7 (by decide) q1 (fun c2 => ?_) (fun c2 => ?_)
  · have h := h.1 c2
    refine g_aload_n X 0 dX7_back_13 rfl ?_
    refine g_aload_n X 0 dX7_back_14 rfl ?_
    refine g_getF X (f := 11) dX7_back_15 lf_X7_39 rfl rfl rfl ?_
    refine g_cVI X (K := K_X1_latestReel) [] [.ref 0] dX7_back_18 lv_X7_249 rm_X7_back_X1_latestReel ⟨by decide, by decide⟩ adA_id rfl rfl rfl (Nat.le_of_ble_eq_true rfl) rfl h (fun x4 s3 q5 h => ?_)
    refine g_cVR X (K := K_X7_reelAt) [.int (iI x4)] [] dX7_back_21 lv_X7_87 rm_X7_back_X7_reelAt ⟨by decide, by decide⟩ adA_id rfl rfl rfl (Nat.le_of_ble_eq_true rfl) rfl h (fun s6 h => ?_) (fun r7 s6 q8 h => ?_)
    · skip
      refine g_astore_nN X (lv' := [(1, .null), (0, .ref 0)]) dX7_back_24 (by decide) rfl ?_
      refine g_aload_nN X 0 dX7_back_25 rfl ?_
      refine g_ifnullN X (tgt := 40) dX7_back_26 (by decide) ?_
      refine g_aload_n X 1 dX7_back_40 rfl ?_
      refine g_getF X (f := 11) dX7_back_41 lf_X7_39 rfl rfl rfl ?_
      refine g_getI X (z := 2) dX7_back_44 lf_X7_246 rfl rfl rfl ?_
      obtain ⟨q9, h⟩ := h
      exact g_iret X hr hlk dX7_back_47 rfl ⟨_, rfl, q9, h⟩
    · skip
      refine g_astore_n X (lv' := [(1, .ref r7), (0, .ref 0)]) dX7_back_24 (by decide) rfl ?_
      refine g_aload_n X 0 dX7_back_25 rfl ?_
      refine g_ifnull X dX7_back_26 ?_
      refine g_aload_n X 1 dX7_back_29 rfl ?_
      refine g_getF X (f := 11) dX7_back_30 lf_X7_39 rfl rfl rfl ?_
      refine g_aload_n X 0 dX7_back_33 rfl ?_
      refine g_getF X (f := (r7 + 12)) dX7_back_34 lf_X7_144 q8 rfl (fn_4_1 q8) ?_
      refine g_cVV X (K := K_X1_takeLatest) [.ref (r7 + 12)] [] dX7_back_37 lv_X7_252 rm_X7_back_X1_takeLatest ⟨by decide, by decide⟩ adA_id rfl rfl rfl (Nat.le_of_ble_eq_true rfl) rfl h (fun s10 h => ?_)
      refine g_aload_n X 1 dX7_back_40 rfl ?_
      refine g_getF X (f := 11) dX7_back_41 lf_X7_39 rfl rfl rfl ?_
      refine g_getI X (z := 2) dX7_back_44 lf_X7_246 rfl rfl rfl ?_
      obtain ⟨q11, h⟩ := h
      exact g_iret X hr hlk dX7_back_47 rfl ⟨_, rfl, q11, h⟩
  · have h := h.2 c2
    refine g_bipush X dX7_back_10 (by decide +kernel) ?_
    exact g_iret X hr hlk dX7_back_12 rfl ⟨_, rfl, (by omega), h⟩
theorem eX7_back {σ : ASt} {Q : Int → ASt → Prop}  (h : i32 ((gI σ 11 2)) ∧ (((gI σ 11 2) ≠ 0 → EvI K_X1_latestReel [.ref 11] σ (fun x4 s3 => EvR 4 K_X7_reelAt [.ref 0, .int (iI x4)] s3 (fun s6 => i32 ((gI s6 11 2)) ∧ Q (gI s6 11 2) s6) (fun r7 s6 => EvV K_X1_takeLatest [.ref 11, .ref (r7 + 12)] s6 (fun s10 => i32 ((gI s10 11 2)) ∧ Q (gI s10 11 2) s10)))) ∧ ((gI σ 11 2) = 0 → Q (-3) σ))) : EvI K_X7_back [.ref 0] σ Q := Ev.of rfl (Nat.le_of_ble_eq_true rfl) rfl (bX7_back_0  h)
theorem bX7_baseAt_0 {v1 : Int} {σ : ASt} {Qn : ASt → Prop} {Qs : Nat → ASt → Prop}  (h : EvZ K_X7_isWithin [.int (iI v1), .int (iI 0), .int (iI 2)] σ (fun s1 => ((0 : Int) ≤ v1 ∧ v1 < 3) ∧ Qs (24 + (v1).toNat) s1) (fun s1 => Qn s1)) : Wx K_X7_baseAt (QR 0 Qn Qs) 0 [(0, .ref 0), (1, .int (iI v1))] [] σ := by
  intro p l e s m args below meth c D cA ad X0 hr hlk
  have X : Cx p s m args c (adA ad) D cA ad RX7 cX7_baseAt 2 := X0
  refine g_iload_n X 1 dX7_baseAt_0 rfl ?_
  refine g_iconst X dX7_baseAt_1 ?_
  refine g_iconst X dX7_baseAt_2 ?_
  refine g_cSZ X (K := K_X7_isWithin) [.int (iI v1), .int (iI 0), .int (iI 2)] [] dX7_baseAt_3 ls_X7_102 rm_X7_baseAt_X7_isWithin ⟨by decide, by decide⟩ adA_id rfl (Nat.le_of_ble_eq_true rfl) rfl h (fun s1 h => ?_) (fun s1 h => ?_)
  · skip
    refine g_if_eq X (tgt := 18) dX7_baseAt_6 (by decide) (by omega) (fun hc => absurd hc (by decide)) (fun _ => ?_)
    refine g_aload_n X 0 dX7_baseAt_9 rfl ?_
    refine g_getF X (f := 1) dX7_baseAt_10 lf_X7_13 rfl rfl rfl ?_
    refine g_iload_n X 1 dX7_baseAt_13 rfl ?_
    obtain ⟨q2, h⟩ := h
    refine g_aald X (f := (24 + (v1).toNat)) dX7_baseAt_14 rfl (by decide) q2.1 q2.2 rfl ?_
    refine g_goto X (tgt := 19) dX7_baseAt_15 (by decide) ?_
    exact g_aret X hr hlk dX7_baseAt_19 (Or.inr ⟨_, rfl, (se_1 q2.1 q2.2), h⟩)
  · skip
    refine g_if_eq X (tgt := 18) dX7_baseAt_6 (by decide) (by omega) (fun _ => ?_) (fun hc => absurd hc (by decide))
    refine g_null X dX7_baseAt_18 ?_
    exact g_aretN X hr hlk dX7_baseAt_19 (Or.inl ⟨rfl, h⟩)
theorem eX7_baseAt {v1 : Int} {σ : ASt} {Qn : ASt → Prop} {Qs : Nat → ASt → Prop}  (h : EvZ K_X7_isWithin [.int (iI v1), .int (iI 0), .int (iI 2)] σ (fun s1 => ((0 : Int) ≤ v1 ∧ v1 < 3) ∧ Qs (24 + (v1).toNat) s1) (fun s1 => Qn s1)) : EvR 0 K_X7_baseAt [.ref 0, .int (iI v1)] σ Qn Qs := Ev.of rfl (Nat.le_of_ble_eq_true rfl) rfl (bX7_baseAt_0  h)
theorem bX7_clearReel_0 {v1 : Int} {σ : ASt} {Q : ASt → Prop}  (h : EvR 4 K_X7_reelAt [.ref 0, .int (iI v1)] σ (fun s1 => Q s1) (fun r2 s1 => EvV K_X1_forget [.ref 11, .int (iI v1)] (sP s1 r2 0 none) (fun s4 => Q s4))) : Wx K_X7_clearReel (QV Q) 0 [(0, .ref 0), (1, .int (iI v1))] [] σ := by
  intro p l e s m args below meth c D cA ad X0 hr hlk
  have X : Cx p s m args c (adA ad) D cA ad RX7 cX7_clearReel 3 := X0
  refine g_aload_n X 0 dX7_clearReel_0 rfl ?_
  refine g_iload_n X 1 dX7_clearReel_1 rfl ?_
  refine g_cVR X (K := K_X7_reelAt) [.int (iI v1)] [] dX7_clearReel_2 lv_X7_87 rm_X7_clearReel_X7_reelAt ⟨by decide, by decide⟩ adA_id rfl rfl rfl (Nat.le_of_ble_eq_true rfl) rfl h (fun s1 h => ?_) (fun r2 s1 q3 h => ?_)
  · skip
    refine g_astore_nN X (lv' := [(2, .null), (0, .ref 0), (1, .int (iI v1))]) dX7_clearReel_5 (by decide) rfl ?_
    refine g_aload_nN X 0 dX7_clearReel_6 rfl ?_
    refine g_ifnullN X (tgt := 23) dX7_clearReel_7 (by decide) ?_
    exact g_vret X hr hlk dX7_clearReel_23 ⟨rfl, h⟩
  · skip
    refine g_astore_n X (lv' := [(2, .ref r2), (0, .ref 0), (1, .int (iI v1))]) dX7_clearReel_5 (by decide) rfl ?_
    refine g_aload_n X 0 dX7_clearReel_6 rfl ?_
    refine g_ifnull X dX7_clearReel_7 ?_
    refine g_aload_n X 0 dX7_clearReel_10 rfl ?_
    refine g_null X dX7_clearReel_11 ?_
    refine g_putP X (r := none) dX7_clearReel_12 lp_X7_91 q3 rfl rfl ?_
    refine g_aload_n X 1 dX7_clearReel_15 rfl ?_
    refine g_getF X (f := 11) dX7_clearReel_16 lf_X7_39 rfl rfl rfl ?_
    refine g_iload_n X 2 dX7_clearReel_19 rfl ?_
    refine g_cVV X (K := K_X1_forget) [.int (iI v1)] [] dX7_clearReel_20 lv_X7_294 rm_X7_clearReel_X1_forget ⟨by decide, by decide⟩ adA_id rfl rfl rfl (Nat.le_of_ble_eq_true rfl) rfl h (fun s4 h => ?_)
    exact g_vret X hr hlk dX7_clearReel_23 ⟨rfl, h⟩
theorem eX7_clearReel {v1 : Int} {σ : ASt} {Q : ASt → Prop}  (h : EvR 4 K_X7_reelAt [.ref 0, .int (iI v1)] σ (fun s1 => Q s1) (fun r2 s1 => EvV K_X1_forget [.ref 11, .int (iI v1)] (sP s1 r2 0 none) (fun s4 => Q s4))) : EvV K_X7_clearReel [.ref 0, .int (iI v1)] σ Q := Ev.of rfl (Nat.le_of_ble_eq_true rfl) rfl (bX7_clearReel_0  h)
theorem bX7_base_0 {v1 : Int} {v2 : Int} {v3 : Int} {σ : ASt} {Q : Int → ASt → Prop}  (h : EvR 0 K_X7_baseAt [.ref 0, .int (iI v1)] σ (fun s1 => Q (-2) s1) (fun r2 s1 => EvZ K_X0_isRowOfSteps [.int (iI v2), .int (iI v3)] s1 (fun s4 => EvV K_X0_tell [.ref r2, .int (iI v2), .int (iI v3)] s4 (fun s5 => Wx K_X7_base (QI Q) 33 [(0, .ref 0), (4, .ref r2), (5, .int (iI 0))] [] s5)) (fun s4 => Q (-2) s4))) : Wx K_X7_base (QI Q) 0 [(0, .ref 0), (1, .int (iI v1)), (2, .int (iI v2)), (3, .int (iI v3))] [] σ := by
  intro p l e s m args below meth c D cA ad X0 hr hlk
  have X : Cx p s m args c (adA ad) D cA ad RX7 cX7_base 7 := X0
  refine g_aload_n X 0 dX7_base_0 rfl ?_
  refine g_iload_n X 1 dX7_base_1 rfl ?_
  refine g_cVR X (K := K_X7_baseAt) [.int (iI v1)] [] dX7_base_2 lv_X7_75 rm_X7_base_X7_baseAt ⟨by decide, by decide⟩ adA_id rfl rfl rfl (Nat.le_of_ble_eq_true rfl) rfl h (fun s1 h => ?_) (fun r2 s1 q3 h => ?_)
  · skip
    refine g_astoreN X (lv' := [(4, .null), (0, .ref 0), (1, .int (iI v1)), (2, .int (iI v2)), (3, .int (iI v3))]) dX7_base_5 (by decide) rfl ?_
    refine g_aloadN X 0 dX7_base_7 rfl ?_
    refine g_ifnullN X (tgt := 20) dX7_base_9 (by decide) ?_
    refine g_bipush X dX7_base_20 (by decide +kernel) ?_
    exact g_iret X hr hlk dX7_base_22 rfl ⟨_, rfl, (by omega), h⟩
  · skip
    refine g_astore X (lv' := [(4, .ref r2), (0, .ref 0), (1, .int (iI v1)), (2, .int (iI v2)), (3, .int (iI v3))]) dX7_base_5 (by decide) rfl ?_
    refine g_aload X 0 dX7_base_7 rfl ?_
    refine g_ifnull X dX7_base_9 ?_
    refine g_iload_n X 3 dX7_base_12 rfl ?_
    refine g_iload_n X 4 dX7_base_13 rfl ?_
    refine g_cSZ X (K := K_X0_isRowOfSteps) [.int (iI v2), .int (iI v3)] [] dX7_base_14 ls_X7_79 rm_X7_base_X0_isRowOfSteps ⟨by decide, by decide⟩ adA_id rfl (Nat.le_of_ble_eq_true rfl) rfl h (fun s4 h => ?_) (fun s4 h => ?_)
    · skip
      refine g_if_ne X (tgt := 23) dX7_base_17 (by decide) (by omega) (fun _ => ?_) (fun hc => absurd hc (by decide))
      refine g_aload X 0 dX7_base_23 rfl ?_
      refine g_iload_n X 3 dX7_base_25 rfl ?_
      refine g_iload_n X 4 dX7_base_26 rfl ?_
      refine g_cVV X (K := K_X0_tell) [.int (iI v2), .int (iI v3)] [] dX7_base_27 lv_X7_83 rm_X7_base_X0_tell ⟨by decide, by decide⟩ adA_id q3 rfl rfl (Nat.le_of_ble_eq_true rfl) rfl h (fun s5 h => ?_)
      refine g_iconst X dX7_base_30 ?_
      refine g_istore X (lv' := [(5, .int (iI 0)), (4, .ref r2), (0, .ref 0), (1, .int (iI v1)), (2, .int (iI v2)), (3, .int (iI v3))]) dX7_base_31 (by decide) rfl ?_
      exact g_sub (lv' := [(0, .ref 0), (4, .ref r2), (5, .int (iI 0))]) [2, 1, 0] rfl (h p l e s m args below meth c D cA ad X0 hr hlk)
    · skip
      refine g_if_ne X (tgt := 23) dX7_base_17 (by decide) (by omega) (fun hc => absurd hc (by decide)) (fun _ => ?_)
      refine g_bipush X dX7_base_20 (by decide +kernel) ?_
      exact g_iret X hr hlk dX7_base_22 rfl ⟨_, rfl, (by omega), h⟩
theorem eX7_base {v1 : Int} {v2 : Int} {v3 : Int} {σ : ASt} {Q : Int → ASt → Prop}  (h : EvR 0 K_X7_baseAt [.ref 0, .int (iI v1)] σ (fun s1 => Q (-2) s1) (fun r2 s1 => EvZ K_X0_isRowOfSteps [.int (iI v2), .int (iI v3)] s1 (fun s4 => EvV K_X0_tell [.ref r2, .int (iI v2), .int (iI v3)] s4 (fun s5 => Wx K_X7_base (QI Q) 33 [(0, .ref 0), (4, .ref r2), (5, .int (iI 0))] [] s5)) (fun s4 => Q (-2) s4))) : EvI K_X7_base [.ref 0, .int (iI v1), .int (iI v2), .int (iI v3)] σ Q := Ev.of rfl (Nat.le_of_ble_eq_true rfl) rfl (bX7_base_0  h)
theorem bX7_base_33 {a4 : Nat} {v5 : Int} {σ : ASt} {Q : Int → ASt → Prop} (ha4 : shp a4 = (0, 0, 0)) (h32v5 : i32 v5) (h : ((6 ≤ v5 → i32 ((gI σ a4 4)) ∧ Q (gI σ a4 4) σ) ∧ (v5 < 6 → EvR 4 K_X7_reelAt [.ref 0, .int (iI v5)] σ (fun s3 => Wx K_X7_base (QI Q) 33 [(0, .ref 0), (4, .ref a4), (5, .int (iI (v5 + 1)))] [] s3) (fun r4 s3 => ((gP s3 r4 0 = none → Wx K_X7_base (QI Q) 33 [(0, .ref 0), (4, .ref a4), (5, .int (iI (v5 + 1)))] [] s3) ∧ (∀ r6 : Nat, gP s3 r4 0 = some r6 → shp r6 = (0, 0, 0) ∧ ((r6 ≠ a4 → Wx K_X7_base (QI Q) 33 [(0, .ref 0), (4, .ref a4), (5, .int (iI (v5 + 1)))] [] s3) ∧ (r6 = a4 → EvV K_X7_clearReel [.ref 0, .int (iI v5)] s3 (fun s10 => Wx K_X7_base (QI Q) 33 [(0, .ref 0), (4, .ref a4), (5, .int (iI (v5 + 1)))] [] s10))))))))) : Wx K_X7_base (QI Q) 33 [(0, .ref 0), (4, .ref a4), (5, .int (iI v5))] [] σ := by
  intro p l e s m args below meth c D cA ad X0 hr hlk
  have X : Cx p s m args c (adA ad) D cA ad RX7 cX7_base 7 := X0
  refine g_iload X 2 dX7_base_33 rfl ?_
  refine g_bipush X dX7_base_35 (by decide +kernel) ?_
  refine g_icmp_ge X (tgt := 75) dX7_base_37 (by decide) h32v5 (by omega) (fun c1 => ?_) (fun c1 => ?_)
  · have h := h.1 c1
    refine g_aload X 1 dX7_base_75 rfl ?_
    refine g_getI X (z := 4) dX7_base_77 lf_X7_98 ha4 rfl rfl ?_
    obtain ⟨q2, h⟩ := h
    exact g_iret X hr hlk dX7_base_80 rfl ⟨_, rfl, q2, h⟩
  · have h := h.2 c1
    refine g_aload_n X 0 dX7_base_40 rfl ?_
    refine g_iload X 2 dX7_base_41 rfl ?_
    refine g_cVR X (K := K_X7_reelAt) [.int (iI v5)] [] dX7_base_43 lv_X7_87 rm_X7_base_X7_reelAt ⟨by decide, by decide⟩ adA_id rfl rfl rfl (Nat.le_of_ble_eq_true rfl) rfl h (fun s3 h => ?_) (fun r4 s3 q5 h => ?_)
    · skip
      refine g_astoreN X (lv' := [(6, .null), (0, .ref 0), (4, .ref a4), (5, .int (iI v5))]) dX7_base_46 (by decide) rfl ?_
      refine g_aloadN X 0 dX7_base_48 rfl ?_
      refine g_ifnullN X (tgt := 69) dX7_base_50 (by decide) ?_
      refine g_iinc X (x := v5) (lv' := [(5, .int (iI (v5 + 1))), (6, .null), (0, .ref 0), (4, .ref a4)]) 3 dX7_base_69 rfl (by decide) rfl ?_
      refine g_goto X (tgt := 33) dX7_base_72 (by decide) ?_
      exact g_sub (lv' := [(0, .ref 0), (4, .ref a4), (5, .int (iI (v5 + 1)))]) [2, 3, 0] rfl (h p l e s m args below meth c D cA ad X0 hr hlk)
    · skip
      refine g_astore X (lv' := [(6, .ref r4), (0, .ref 0), (4, .ref a4), (5, .int (iI v5))]) dX7_base_46 (by decide) rfl ?_
      refine g_aload X 0 dX7_base_48 rfl ?_
      refine g_ifnull X dX7_base_50 ?_
      refine g_aload X 0 dX7_base_53 rfl ?_
      refine g_getP X dX7_base_55 lf_X7_91 q5 rfl (fun c7 => ?_) (fun r6 c7 => ?_)
      · have h := h.1 c7
        refine g_aload X 2 dX7_base_58 rfl ?_
        refine g_acmp_neN X (tgt := 69) dX7_base_60 (by decide) ?_
        refine g_iinc X (x := v5) (lv' := [(5, .int (iI (v5 + 1))), (6, .ref r4), (0, .ref 0), (4, .ref a4)]) 3 dX7_base_69 rfl (by decide) rfl ?_
        refine g_goto X (tgt := 33) dX7_base_72 (by decide) ?_
        exact g_sub (lv' := [(0, .ref 0), (4, .ref a4), (5, .int (iI (v5 + 1)))]) [2, 3, 0] rfl (h p l e s m args below meth c D cA ad X0 hr hlk)
      · obtain ⟨q8, h⟩ := h.2 r6 c7
        refine g_aload X 2 dX7_base_58 rfl ?_
        refine g_acmp_ne X (tgt := 69) dX7_base_60 (by decide) (shp_lt q8 (by decide)) (shp_lt ha4 (by decide)) (fun c9 => ?_) (fun c9 => ?_)
        · have h := h.1 c9
          refine g_iinc X (x := v5) (lv' := [(5, .int (iI (v5 + 1))), (6, .ref r4), (0, .ref 0), (4, .ref a4)]) 3 dX7_base_69 rfl (by decide) rfl ?_
          refine g_goto X (tgt := 33) dX7_base_72 (by decide) ?_
          exact g_sub (lv' := [(0, .ref 0), (4, .ref a4), (5, .int (iI (v5 + 1)))]) [2, 3, 0] rfl (h p l e s m args below meth c D cA ad X0 hr hlk)
        · have h := h.2 c9
          refine g_aload_n X 1 dX7_base_63 rfl ?_
          refine g_iload X 3 dX7_base_64 rfl ?_
          refine g_cVV X (K := K_X7_clearReel) [.int (iI v5)] [] dX7_base_66 lv_X7_95 rm_X7_base_X7_clearReel ⟨by decide, by decide⟩ adA_id rfl rfl rfl (Nat.le_of_ble_eq_true rfl) rfl h (fun s10 h => ?_)
          refine g_iinc X (x := v5) (lv' := [(5, .int (iI (v5 + 1))), (6, .ref r4), (0, .ref 0), (4, .ref a4)]) 3 dX7_base_69 rfl (by decide) rfl ?_
          refine g_goto X (tgt := 33) dX7_base_72 (by decide) ?_
          exact g_sub (lv' := [(0, .ref 0), (4, .ref a4), (5, .int (iI (v5 + 1)))]) [2, 3, 0] rfl (h p l e s m args below meth c D cA ad X0 hr hlk)
theorem bX7_exchange_0 {v1 : Int} {v2 : Int} {v3 : Int} {σ : ASt} {Q : Int → ASt → Prop}  (h : EvR 4 K_X7_reelAt [.ref 0, .int (iI v1)] σ (fun s1 => Q (-2) s1) (fun r2 s1 => ((gP s1 r2 0 = none → Q (-11) s1) ∧ (∀ r4 : Nat, gP s1 r2 0 = some r4 → shp r4 = (0, 0, 0) ∧ EvZ K_X7_isWithin [.int (iI v2), .int (iI 0), .int (iI ((gI s1 r4 4) - 2))] s1 (fun s7 => EvZ K_X0_canCarry [.ref r4, .ref (r2 + 12), .int (iI v2), .int (iI v3)] s7 (fun s8 => EvV K_X1_keep [.ref 11, .int (iI v1), .ref (r2 + 12)] s8 (fun s9 => EvV K_X0_carryOnce [.ref r4, .ref (r2 + 12), .int (iI v2), .int (iI v3)] s9 (fun s10 => Q 1 s10))) (fun s8 => Q (-3) s8)) (fun s7 => Q (-12) s7))))) : Wx K_X7_exchange (QI Q) 0 [(0, .ref 0), (1, .int (iI v1)), (2, .int (iI v2)), (3, .int (iI v3))] [] σ := by
  intro p l e s m args below meth c D cA ad X0 hr hlk
  have X : Cx p s m args c (adA ad) D cA ad RX7 cX7_exchange 6 := X0
  refine g_aload_n X 0 dX7_exchange_0 rfl ?_
  refine g_iload_n X 1 dX7_exchange_1 rfl ?_
  refine g_cVR X (K := K_X7_reelAt) [.int (iI v1)] [] dX7_exchange_2 lv_X7_87 rm_X7_exchange_X7_reelAt ⟨by decide, by decide⟩ adA_id rfl rfl rfl (Nat.le_of_ble_eq_true rfl) rfl h (fun s1 h => ?_) (fun r2 s1 q3 h => ?_)
  · skip
    refine g_astoreN X (lv' := [(4, .null), (0, .ref 0), (1, .int (iI v1)), (2, .int (iI v2)), (3, .int (iI v3))]) dX7_exchange_5 (by decide) rfl ?_
    refine g_aloadN X 0 dX7_exchange_7 rfl ?_
    refine g_ifnonnullN X dX7_exchange_9 ?_
    refine g_bipush X dX7_exchange_12 (by decide +kernel) ?_
    exact g_iret X hr hlk dX7_exchange_14 rfl ⟨_, rfl, (by omega), h⟩
  · skip
    refine g_astore X (lv' := [(4, .ref r2), (0, .ref 0), (1, .int (iI v1)), (2, .int (iI v2)), (3, .int (iI v3))]) dX7_exchange_5 (by decide) rfl ?_
    refine g_aload X 0 dX7_exchange_7 rfl ?_
    refine g_ifnonnull X (tgt := 15) dX7_exchange_9 (by decide) ?_
    refine g_aload X 0 dX7_exchange_15 rfl ?_
    refine g_getP X dX7_exchange_17 lf_X7_91 q3 rfl (fun c5 => ?_) (fun r4 c5 => ?_)
    · have h := h.1 c5
      refine g_astoreN X (lv' := [(5, .null), (4, .ref r2), (0, .ref 0), (1, .int (iI v1)), (2, .int (iI v2)), (3, .int (iI v3))]) dX7_exchange_20 (by decide) rfl ?_
      refine g_aloadN X 0 dX7_exchange_22 rfl ?_
      refine g_ifnonnullN X dX7_exchange_24 ?_
      refine g_bipush X dX7_exchange_27 (by decide +kernel) ?_
      exact g_iret X hr hlk dX7_exchange_29 rfl ⟨_, rfl, (by omega), h⟩
    · obtain ⟨q6, h⟩ := h.2 r4 c5
      refine g_astore X (lv' := [(5, .ref r4), (4, .ref r2), (0, .ref 0), (1, .int (iI v1)), (2, .int (iI v2)), (3, .int (iI v3))]) dX7_exchange_20 (by decide) rfl ?_
      refine g_aload X 0 dX7_exchange_22 rfl ?_
      refine g_ifnonnull X (tgt := 30) dX7_exchange_24 (by decide) ?_
      refine g_iload_n X 4 dX7_exchange_30 rfl ?_
      refine g_iconst X dX7_exchange_31 ?_
      refine g_aload X 0 dX7_exchange_32 rfl ?_
      refine g_getI X (z := 4) dX7_exchange_34 lf_X7_98 q6 rfl rfl ?_
      refine g_iconst X dX7_exchange_37 ?_
      refine g_isub X dX7_exchange_38 ?_
      refine g_cSZ X (K := K_X7_isWithin) [.int (iI v2), .int (iI 0), .int (iI ((gI s1 r4 4) - 2))] [] dX7_exchange_39 ls_X7_102 rm_X7_exchange_X7_isWithin ⟨by decide, by decide⟩ adA_id rfl (Nat.le_of_ble_eq_true rfl) rfl h (fun s7 h => ?_) (fun s7 h => ?_)
      · skip
        refine g_if_ne X (tgt := 48) dX7_exchange_42 (by decide) (by omega) (fun _ => ?_) (fun hc => absurd hc (by decide))
        refine g_aload X 0 dX7_exchange_48 rfl ?_
        refine g_aload X 1 dX7_exchange_50 rfl ?_
        refine g_getF X (f := (r2 + 12)) dX7_exchange_52 lf_X7_144 q3 rfl (fn_4_1 q3) ?_
        refine g_iload_n X 4 dX7_exchange_55 rfl ?_
        refine g_iload_n X 5 dX7_exchange_56 rfl ?_
        refine g_cVZ X (K := K_X0_canCarry) [.ref (r2 + 12), .int (iI v2), .int (iI v3)] [] dX7_exchange_57 lv_X7_297 rm_X7_exchange_X0_canCarry ⟨by decide, by decide⟩ adA_id q6 rfl rfl (Nat.le_of_ble_eq_true rfl) rfl h (fun s8 h => ?_) (fun s8 h => ?_)
        · skip
          refine g_if_ne X (tgt := 66) dX7_exchange_60 (by decide) (by omega) (fun _ => ?_) (fun hc => absurd hc (by decide))
          refine g_aload_n X 2 dX7_exchange_66 rfl ?_
          refine g_getF X (f := 11) dX7_exchange_67 lf_X7_39 rfl rfl rfl ?_
          refine g_iload_n X 3 dX7_exchange_70 rfl ?_
          refine g_aload X 1 dX7_exchange_71 rfl ?_
          refine g_getF X (f := (r2 + 12)) dX7_exchange_73 lf_X7_144 q3 rfl (fn_4_1 q3) ?_
          refine g_cVV X (K := K_X1_keep) [.int (iI v1), .ref (r2 + 12)] [] dX7_exchange_76 lv_X7_162 rm_X7_exchange_X1_keep ⟨by decide, by decide⟩ adA_id rfl rfl rfl (Nat.le_of_ble_eq_true rfl) rfl h (fun s9 h => ?_)
          refine g_aload X 0 dX7_exchange_79 rfl ?_
          refine g_aload X 1 dX7_exchange_81 rfl ?_
          refine g_getF X (f := (r2 + 12)) dX7_exchange_83 lf_X7_144 q3 rfl (fn_4_1 q3) ?_
          refine g_iload_n X 4 dX7_exchange_86 rfl ?_
          refine g_iload_n X 5 dX7_exchange_87 rfl ?_
          refine g_cVV X (K := K_X0_carryOnce) [.ref (r2 + 12), .int (iI v2), .int (iI v3)] [] dX7_exchange_88 lv_X7_301 rm_X7_exchange_X0_carryOnce ⟨by decide, by decide⟩ adA_id q6 rfl rfl (Nat.le_of_ble_eq_true rfl) rfl h (fun s10 h => ?_)
          refine g_iconst X dX7_exchange_91 ?_
          exact g_iret X hr hlk dX7_exchange_92 rfl ⟨_, rfl, (by omega), h⟩
        · skip
          refine g_if_ne X (tgt := 66) dX7_exchange_60 (by decide) (by omega) (fun hc => absurd hc (by decide)) (fun _ => ?_)
          refine g_bipush X dX7_exchange_63 (by decide +kernel) ?_
          exact g_iret X hr hlk dX7_exchange_65 rfl ⟨_, rfl, (by omega), h⟩
      · skip
        refine g_if_ne X (tgt := 48) dX7_exchange_42 (by decide) (by omega) (fun hc => absurd hc (by decide)) (fun _ => ?_)
        refine g_bipush X dX7_exchange_45 (by decide +kernel) ?_
        exact g_iret X hr hlk dX7_exchange_47 rfl ⟨_, rfl, (by omega), h⟩
theorem eX7_exchange {v1 : Int} {v2 : Int} {v3 : Int} {σ : ASt} {Q : Int → ASt → Prop}  (h : EvR 4 K_X7_reelAt [.ref 0, .int (iI v1)] σ (fun s1 => Q (-2) s1) (fun r2 s1 => ((gP s1 r2 0 = none → Q (-11) s1) ∧ (∀ r4 : Nat, gP s1 r2 0 = some r4 → shp r4 = (0, 0, 0) ∧ EvZ K_X7_isWithin [.int (iI v2), .int (iI 0), .int (iI ((gI s1 r4 4) - 2))] s1 (fun s7 => EvZ K_X0_canCarry [.ref r4, .ref (r2 + 12), .int (iI v2), .int (iI v3)] s7 (fun s8 => EvV K_X1_keep [.ref 11, .int (iI v1), .ref (r2 + 12)] s8 (fun s9 => EvV K_X0_carryOnce [.ref r4, .ref (r2 + 12), .int (iI v2), .int (iI v3)] s9 (fun s10 => Q 1 s10))) (fun s8 => Q (-3) s8)) (fun s7 => Q (-12) s7))))) : EvI K_X7_exchange [.ref 0, .int (iI v1), .int (iI v2), .int (iI v3)] σ Q := Ev.of rfl (Nat.le_of_ble_eq_true rfl) rfl (bX7_exchange_0  h)
theorem bX7_borrow_0 {v1 : Int} {v2 : Int} {σ : ASt} {Q : Int → ASt → Prop}  (h : EvI K_X7_exchange [.ref 0, .int (iI v1), .int (iI v2), .int (iI (-1))] σ (fun x2 s1 => ((x2 ≠ 1 → Q x2 s1) ∧ (x2 = 1 → EvI K_X7_at [.ref 0, .int (iI v1), .int (iI v2)] s1 (fun x6 s5 => Q x6 s5))))) : Wx K_X7_borrow (QI Q) 0 [(0, .ref 0), (1, .int (iI v1)), (2, .int (iI v2))] [] σ := by
  intro p l e s m args below meth c D cA ad X0 hr hlk
  have X : Cx p s m args c (adA ad) D cA ad RX7 cX7_borrow 4 := X0
  refine g_aload_n X 0 dX7_borrow_0 rfl ?_
  refine g_iload_n X 1 dX7_borrow_1 rfl ?_
  refine g_iload_n X 2 dX7_borrow_2 rfl ?_
  refine g_iconst X dX7_borrow_3 ?_
  refine g_cVI X (K := K_X7_exchange) [.int (iI v1), .int (iI v2), .int (iI (-1))] [] dX7_borrow_4 lv_X7_166 rm_X7_borrow_X7_exchange ⟨by decide, by decide⟩ adA_id rfl rfl rfl (Nat.le_of_ble_eq_true rfl) rfl h (fun x2 s1 q3 h => ?_)
  refine g_istore_n X (lv' := [(3, .int (iI x2)), (0, .ref 0), (1, .int (iI v1)), (2, .int (iI v2))]) dX7_borrow_7 (by decide) rfl ?_
  refine g_iload_n X 0 dX7_borrow_8 rfl ?_
  refine g_iconst X dX7_borrow_9 ?_
  refine g_icmp_ne X (tgt := 22) dX7_borrow_10 (by decide) q3 (by omega) (fun c4 => ?_) (fun c4 => ?_)
  · have h := h.1 c4
    refine g_iload_n X 0 dX7_borrow_22 rfl ?_
    exact g_iret X hr hlk dX7_borrow_23 rfl ⟨_, rfl, q3, h⟩
  · have h := h.2 c4
    refine g_aload_n X 1 dX7_borrow_13 rfl ?_
    refine g_iload_n X 2 dX7_borrow_14 rfl ?_
    refine g_iload_n X 3 dX7_borrow_15 rfl ?_
    refine g_cVI X (K := K_X7_at) [.int (iI v1), .int (iI v2)] [] dX7_borrow_16 lv_X7_170 rm_X7_borrow_X7_at ⟨by decide, by decide⟩ adA_id rfl rfl rfl (Nat.le_of_ble_eq_true rfl) rfl h (fun x6 s5 q7 h => ?_)
    refine g_goto X (tgt := 23) dX7_borrow_19 (by decide) ?_
    exact g_iret X hr hlk dX7_borrow_23 rfl ⟨_, rfl, q7, h⟩
theorem eX7_borrow {v1 : Int} {v2 : Int} {σ : ASt} {Q : Int → ASt → Prop}  (h : EvI K_X7_exchange [.ref 0, .int (iI v1), .int (iI v2), .int (iI (-1))] σ (fun x2 s1 => ((x2 ≠ 1 → Q x2 s1) ∧ (x2 = 1 → EvI K_X7_at [.ref 0, .int (iI v1), .int (iI v2)] s1 (fun x6 s5 => Q x6 s5))))) : EvI K_X7_borrow [.ref 0, .int (iI v1), .int (iI v2)] σ Q := Ev.of rfl (Nat.le_of_ble_eq_true rfl) rfl (bX7_borrow_0  h)
theorem bX7_carry_0 {v1 : Int} {v2 : Int} {σ : ASt} {Q : Int → ASt → Prop}  (h : EvI K_X7_exchange [.ref 0, .int (iI v1), .int (iI v2), .int (iI 1)] σ (fun x2 s1 => ((x2 ≠ 1 → Q x2 s1) ∧ (x2 = 1 → EvI K_X7_at [.ref 0, .int (iI v1), .int (iI (v2 + 1))] s1 (fun x6 s5 => Q x6 s5))))) : Wx K_X7_carry (QI Q) 0 [(0, .ref 0), (1, .int (iI v1)), (2, .int (iI v2))] [] σ := by
  intro p l e s m args below meth c D cA ad X0 hr hlk
  have X : Cx p s m args c (adA ad) D cA ad RX7 cX7_carry 4 := X0
  refine g_aload_n X 0 dX7_carry_0 rfl ?_
  refine g_iload_n X 1 dX7_carry_1 rfl ?_
  refine g_iload_n X 2 dX7_carry_2 rfl ?_
  refine g_iconst X dX7_carry_3 ?_
  refine g_cVI X (K := K_X7_exchange) [.int (iI v1), .int (iI v2), .int (iI 1)] [] dX7_carry_4 lv_X7_166 rm_X7_carry_X7_exchange ⟨by decide, by decide⟩ adA_id rfl rfl rfl (Nat.le_of_ble_eq_true rfl) rfl h (fun x2 s1 q3 h => ?_)
  refine g_istore_n X (lv' := [(3, .int (iI x2)), (0, .ref 0), (1, .int (iI v1)), (2, .int (iI v2))]) dX7_carry_7 (by decide) rfl ?_
  refine g_iload_n X 0 dX7_carry_8 rfl ?_
  refine g_iconst X dX7_carry_9 ?_
  refine g_icmp_ne X (tgt := 24) dX7_carry_10 (by decide) q3 (by omega) (fun c4 => ?_) (fun c4 => ?_)
  · have h := h.1 c4
    refine g_iload_n X 0 dX7_carry_24 rfl ?_
    exact g_iret X hr hlk dX7_carry_25 rfl ⟨_, rfl, q3, h⟩
  · have h := h.2 c4
    refine g_aload_n X 1 dX7_carry_13 rfl ?_
    refine g_iload_n X 2 dX7_carry_14 rfl ?_
    refine g_iload_n X 3 dX7_carry_15 rfl ?_
    refine g_iconst X dX7_carry_16 ?_
    refine g_iadd X dX7_carry_17 ?_
    refine g_cVI X (K := K_X7_at) [.int (iI v1), .int (iI (v2 + 1))] [] dX7_carry_18 lv_X7_170 rm_X7_carry_X7_at ⟨by decide, by decide⟩ adA_id rfl rfl rfl (Nat.le_of_ble_eq_true rfl) rfl h (fun x6 s5 q7 h => ?_)
    refine g_goto X (tgt := 25) dX7_carry_21 (by decide) ?_
    exact g_iret X hr hlk dX7_carry_25 rfl ⟨_, rfl, q7, h⟩
theorem eX7_carry {v1 : Int} {v2 : Int} {σ : ASt} {Q : Int → ASt → Prop}  (h : EvI K_X7_exchange [.ref 0, .int (iI v1), .int (iI v2), .int (iI 1)] σ (fun x2 s1 => ((x2 ≠ 1 → Q x2 s1) ∧ (x2 = 1 → EvI K_X7_at [.ref 0, .int (iI v1), .int (iI (v2 + 1))] s1 (fun x6 s5 => Q x6 s5))))) : EvI K_X7_carry [.ref 0, .int (iI v1), .int (iI v2)] σ Q := Ev.of rfl (Nat.le_of_ble_eq_true rfl) rfl (bX7_carry_0  h)
theorem bX7_copyDigits_0 {a0 : Nat} {a1 : Nat} {σ : ASt} {Q : ASt → Prop} (ha0 : shp a0 = (1, 0, 43)) (ha1 : shp a1 = (1, 0, 43)) (h : (0 : Int) ≤ (if (43 : Int) < 43 then 43 else 43) ∧ (0 : Int) + (if (43 : Int) < 43 then 43 else 43) ≤ 43 ∧ (0 : Int) + (if (43 : Int) < 43 then 43 else 43) ≤ 43 ∧ Q (cI σ a0 a1 0 0 (if (43 : Int) < 43 then 43 else 43))) : Wx K_X7_copyDigits (QV Q) 0 [(0, .ref a0), (1, .ref a1)] [] σ := by
  intro p l e s m args below meth c D cA ad X0 hr hlk
  have X : Cx p s m args c (adA ad) D cA ad RX7 cX7_copyDigits 2 := X0
  refine g_aload_n X 0 dX7_copyDigits_0 rfl ?_
  refine g_iconst X dX7_copyDigits_1 ?_
  refine g_aload_n X 1 dX7_copyDigits_2 rfl ?_
  refine g_iconst X dX7_copyDigits_3 ?_
  refine g_aload_n X 0 dX7_copyDigits_4 rfl ?_
  refine g_alen1 X (z := 43) dX7_copyDigits_5 ha0 rfl ?_
  refine g_aload_n X 1 dX7_copyDigits_6 rfl ?_
  refine g_alen1 X (z := 43) dX7_copyDigits_7 ha1 rfl ?_
  refine g_mmin X dX7_copyDigits_8 lm_X7_313 (by decide) (Nat.le_of_ble_eq_true rfl) ⟨by decide, by decide⟩ (by omega) (by omega) ?_
  obtain ⟨q1, h⟩ := h
  obtain ⟨q2, h⟩ := h
  obtain ⟨q3, h⟩ := h
  refine g_copyI X dX7_copyDigits_11 la_X7_274 (by decide) (Nat.le_of_ble_eq_true rfl) ha0 ha1 (by decide) (by decide) q1 q2 q3 ?_
  exact g_vret X hr hlk dX7_copyDigits_14 ⟨rfl, h⟩
theorem eX7_copyDigits {a0 : Nat} {a1 : Nat} {σ : ASt} {Q : ASt → Prop} (ha0 : shp a0 = (1, 0, 43)) (ha1 : shp a1 = (1, 0, 43)) (h : (0 : Int) ≤ (if (43 : Int) < 43 then 43 else 43) ∧ (0 : Int) + (if (43 : Int) < 43 then 43 else 43) ≤ 43 ∧ (0 : Int) + (if (43 : Int) < 43 then 43 else 43) ≤ 43 ∧ Q (cI σ a0 a1 0 0 (if (43 : Int) < 43 then 43 else 43))) : EvV K_X7_copyDigits [.ref a0, .ref a1] σ Q := Ev.of rfl (Nat.le_of_ble_eq_true rfl) rfl (bX7_copyDigits_0 ha0 ha1 h)
theorem bX7_carryState_0 {a0 : Nat} {a1 : Nat} {a2 : Nat} {a3 : Nat} {σ : ASt} {Q : ASt → Prop} (ha0 : shp a0 = (4, 3, 3)) (ha1 : shp a1 = (4, 4, 6)) (ha2 : shp a2 = (4, 3, 3)) (ha3 : shp a3 = (4, 4, 6)) (h : Wx K_X7_carryState (QV Q) 3 [(0, .ref a0), (1, .ref a1), (2, .ref a2), (3, .ref a3), (4, .int (iI 0))] [] σ) : Wx K_X7_carryState (QV Q) 0 [(0, .ref a0), (1, .ref a1), (2, .ref a2), (3, .ref a3)] [] σ := by
  intro p l e s m args below meth c D cA ad X0 hr hlk
  have X : Cx p s m args c (adA ad) D cA ad RX7 cX7_carryState 5 := X0
  refine g_iconst X dX7_carryState_0 ?_
  refine g_istore X (lv' := [(4, .int (iI 0)), (0, .ref a0), (1, .ref a1), (2, .ref a2), (3, .ref a3)]) dX7_carryState_1 (by decide) rfl ?_
  exact g_sub (lv' := [(0, .ref a0), (1, .ref a1), (2, .ref a2), (3, .ref a3), (4, .int (iI 0))]) [1, 2, 3, 4, 0] rfl (h p l e s m args below meth c D cA ad X0 hr hlk)
theorem eX7_carryState {a0 : Nat} {a1 : Nat} {a2 : Nat} {a3 : Nat} {σ : ASt} {Q : ASt → Prop} (ha0 : shp a0 = (4, 3, 3)) (ha1 : shp a1 = (4, 4, 6)) (ha2 : shp a2 = (4, 3, 3)) (ha3 : shp a3 = (4, 4, 6)) (h : Wx K_X7_carryState (QV Q) 3 [(0, .ref a0), (1, .ref a1), (2, .ref a2), (3, .ref a3), (4, .int (iI 0))] [] σ) : EvV K_X7_carryState [.ref a0, .ref a1, .ref a2, .ref a3] σ Q := Ev.of rfl (Nat.le_of_ble_eq_true rfl) rfl (bX7_carryState_0 ha0 ha1 ha2 ha3 h)
theorem bX7_carryState_3 {a0 : Nat} {a1 : Nat} {a2 : Nat} {a3 : Nat} {v4 : Int} {σ : ASt} {Q : ASt → Prop} (ha0 : shp a0 = (4, 3, 3)) (ha1 : shp a1 = (4, 4, 6)) (ha2 : shp a2 = (4, 3, 3)) (ha3 : shp a3 = (4, 4, 6)) (h32v4 : i32 v4) (h : ((3 ≤ v4 → Wx K_X7_carryState (QV Q) 51 [(1, .ref a1), (3, .ref a3), (4, .int (iI 0))] [] σ) ∧ (v4 < 3 → ((3 ≤ v4 → Wx K_X7_carryState (QV Q) 51 [(1, .ref a1), (3, .ref a3), (4, .int (iI 0))] [] σ) ∧ (v4 < 3 → ((0 : Int) ≤ v4 ∧ v4 < 3) ∧ EvV K_X0_becomeLike [.ref (fin a2 (v4).toNat), .ref (fin a0 (v4).toNat)] σ (fun s4 => Wx K_X7_carryState (QV Q) 3 [(0, .ref a0), (1, .ref a1), (2, .ref a2), (3, .ref a3), (4, .int (iI (v4 + 1)))] [] s4)))))) : Wx K_X7_carryState (QV Q) 3 [(0, .ref a0), (1, .ref a1), (2, .ref a2), (3, .ref a3), (4, .int (iI v4))] [] σ := by
  intro p l e s m args below meth c D cA ad X0 hr hlk
  have X : Cx p s m args c (adA ad) D cA ad RX7 cX7_carryState 5 := X0
  refine g_iload X 4 dX7_carryState_3 rfl ?_
  refine g_aload_n X 0 dX7_carryState_5 rfl ?_
  refine g_alen4 X (z := 3) dX7_carryState_6 ha0 (by decide) rfl ?_
  refine g_icmp_ge X (tgt := 48) dX7_carryState_7 (by decide) h32v4 (by omega) (fun c1 => ?_) (fun c1 => ?_)
  · have h := h.1 c1
    refine g_iconst X dX7_carryState_48 ?_
    refine g_istore X (lv' := [(4, .int (iI 0)), (0, .ref a0), (1, .ref a1), (2, .ref a2), (3, .ref a3)]) dX7_carryState_49 (by decide) rfl ?_
    exact g_sub (lv' := [(1, .ref a1), (3, .ref a3), (4, .int (iI 0))]) [2, 4, 0] rfl (h p l e s m args below meth c D cA ad X0 hr hlk)
  · have h := h.2 c1
    refine g_iload X 4 dX7_carryState_10 rfl ?_
    refine g_aload_n X 2 dX7_carryState_12 rfl ?_
    refine g_alen4 X (z := 3) dX7_carryState_13 ha2 (by decide) rfl ?_
    refine g_icmp_ge X (tgt := 48) dX7_carryState_14 (by decide) h32v4 (by omega) (fun c2 => ?_) (fun c2 => ?_)
    · have h := h.1 c2
      refine g_iconst X dX7_carryState_48 ?_
      refine g_istore X (lv' := [(4, .int (iI 0)), (0, .ref a0), (1, .ref a1), (2, .ref a2), (3, .ref a3)]) dX7_carryState_49 (by decide) rfl ?_
      exact g_sub (lv' := [(1, .ref a1), (3, .ref a3), (4, .int (iI 0))]) [2, 4, 0] rfl (h p l e s m args below meth c D cA ad X0 hr hlk)
    · have h := h.2 c2
      refine g_aload_n X 0 dX7_carryState_17 rfl ?_
      refine g_iload X 4 dX7_carryState_18 rfl ?_
      obtain ⟨q3, h⟩ := h
      refine g_aald X (f := (fin a0 (v4).toNat)) dX7_carryState_20 ha0 (by decide) q3.1 q3.2 rfl ?_
      refine g_ifnull X dX7_carryState_21 ?_
      refine g_aload_n X 2 dX7_carryState_24 rfl ?_
      refine g_iload X 4 dX7_carryState_25 rfl ?_
      refine g_aald X (f := (fin a2 (v4).toNat)) dX7_carryState_27 ha2 (by decide) q3.1 q3.2 rfl ?_
      refine g_ifnull X dX7_carryState_28 ?_
      refine g_aload_n X 2 dX7_carryState_31 rfl ?_
      refine g_iload X 4 dX7_carryState_32 rfl ?_
      refine g_aald X (f := (fin a2 (v4).toNat)) dX7_carryState_34 ha2 (by decide) q3.1 q3.2 rfl ?_
      refine g_aload_n X 0 dX7_carryState_35 rfl ?_
      refine g_iload X 4 dX7_carryState_36 rfl ?_
      refine g_aald X (f := (fin a0 (v4).toNat)) dX7_carryState_38 ha0 (by decide) q3.1 q3.2 rfl ?_
      refine g_cVV X (K := K_X0_becomeLike) [.ref (fin a0 (v4).toNat)] [] dX7_carryState_39 lv_X7_309 rm_X7_carryState_X0_becomeLike ⟨by decide, by decide⟩ adA_id (sv_3 ha2 q3.1 q3.2) rfl rfl (Nat.le_of_ble_eq_true rfl) rfl h (fun s4 h => ?_)
      refine g_iinc X (x := v4) (lv' := [(4, .int (iI (v4 + 1))), (0, .ref a0), (1, .ref a1), (2, .ref a2), (3, .ref a3)]) 4 dX7_carryState_42 rfl (by decide) rfl ?_
      refine g_goto X (tgt := 3) dX7_carryState_45 (by decide) ?_
      exact g_sub (lv' := [(0, .ref a0), (1, .ref a1), (2, .ref a2), (3, .ref a3), (4, .int (iI (v4 + 1)))]) [1, 2, 3, 4, 0] rfl (h p l e s m args below meth c D cA ad X0 hr hlk)
theorem bX7_carryState_51 {a1 : Nat} {a3 : Nat} {v4 : Int} {σ : ASt} {Q : ASt → Prop} (ha1 : shp a1 = (4, 4, 6)) (ha3 : shp a3 = (4, 4, 6)) (h32v4 : i32 v4) (h : ((6 ≤ v4 → Q σ) ∧ (v4 < 6 → ((6 ≤ v4 → Q σ) ∧ (v4 < 6 → ((0 : Int) ≤ v4 ∧ v4 < 6) ∧ ((gP σ (fin a1 (v4).toNat) 0 = none → EvV K_X7_copyDigits [.ref ((fin a1 (v4).toNat) + 12), .ref ((fin a3 (v4).toNat) + 12)] (sP σ (fin a3 (v4).toNat) 0 none) (fun s6 => Wx K_X7_carryState (QV Q) 51 [(1, .ref a1), (3, .ref a3), (4, .int (iI (v4 + 1)))] [] s6)) ∧ (∀ r4 : Nat, gP σ (fin a1 (v4).toNat) 0 = some r4 → shp r4 = (0, 0, 0) ∧ EvV K_X7_copyDigits [.ref ((fin a1 (v4).toNat) + 12), .ref ((fin a3 (v4).toNat) + 12)] (sP σ (fin a3 (v4).toNat) 0 (some r4)) (fun s8 => Wx K_X7_carryState (QV Q) 51 [(1, .ref a1), (3, .ref a3), (4, .int (iI (v4 + 1)))] [] s8)))))))) : Wx K_X7_carryState (QV Q) 51 [(1, .ref a1), (3, .ref a3), (4, .int (iI v4))] [] σ := by
  intro p l e s m args below meth c D cA ad X0 hr hlk
  have X : Cx p s m args c (adA ad) D cA ad RX7 cX7_carryState 5 := X0
  refine g_iload X 2 dX7_carryState_51 rfl ?_
  refine g_aload_n X 0 dX7_carryState_53 rfl ?_
  refine g_alen4 X (z := 6) dX7_carryState_54 ha1 (by decide) rfl ?_
  refine g_icmp_ge X (tgt := 116) dX7_carryState_55 (by decide) h32v4 (by omega) (fun c1 => ?_) (fun c1 => ?_)
  · have h := h.1 c1
    exact g_vret X hr hlk dX7_carryState_116 ⟨rfl, h⟩
  · have h := h.2 c1
    refine g_iload X 2 dX7_carryState_58 rfl ?_
    refine g_aload_n X 1 dX7_carryState_60 rfl ?_
    refine g_alen4 X (z := 6) dX7_carryState_61 ha3 (by decide) rfl ?_
    refine g_icmp_ge X (tgt := 116) dX7_carryState_62 (by decide) h32v4 (by omega) (fun c2 => ?_) (fun c2 => ?_)
    · have h := h.1 c2
      exact g_vret X hr hlk dX7_carryState_116 ⟨rfl, h⟩
    · have h := h.2 c2
      refine g_aload_n X 0 dX7_carryState_65 rfl ?_
      refine g_iload X 2 dX7_carryState_66 rfl ?_
      obtain ⟨q3, h⟩ := h
      refine g_aald X (f := (fin a1 (v4).toNat)) dX7_carryState_68 ha1 (by decide) q3.1 q3.2 rfl ?_
      refine g_ifnull X dX7_carryState_69 ?_
      refine g_aload_n X 1 dX7_carryState_72 rfl ?_
      refine g_iload X 2 dX7_carryState_73 rfl ?_
      refine g_aald X (f := (fin a3 (v4).toNat)) dX7_carryState_75 ha3 (by decide) q3.1 q3.2 rfl ?_
      refine g_ifnull X dX7_carryState_76 ?_
      refine g_aload_n X 1 dX7_carryState_79 rfl ?_
      refine g_iload X 2 dX7_carryState_80 rfl ?_
      refine g_aald X (f := (fin a3 (v4).toNat)) dX7_carryState_82 ha3 (by decide) q3.1 q3.2 rfl ?_
      refine g_aload_n X 0 dX7_carryState_83 rfl ?_
      refine g_iload X 2 dX7_carryState_84 rfl ?_
      refine g_aald X (f := (fin a1 (v4).toNat)) dX7_carryState_86 ha1 (by decide) q3.1 q3.2 rfl ?_
      refine g_getP X dX7_carryState_87 lf_X7_91 (sv_4 ha1 q3.1 q3.2) rfl (fun c5 => ?_) (fun r4 c5 => ?_)
      · have h := h.1 c5
        refine g_putP X (r := none) dX7_carryState_90 lp_X7_91 (sv_4 ha3 q3.1 q3.2) rfl rfl ?_
        refine g_aload_n X 0 dX7_carryState_93 rfl ?_
        refine g_iload X 2 dX7_carryState_94 rfl ?_
        refine g_aald X (f := (fin a1 (v4).toNat)) dX7_carryState_96 ha1 (by decide) q3.1 q3.2 rfl ?_
        refine g_getF X (f := ((fin a1 (v4).toNat) + 12)) dX7_carryState_97 lf_X7_144 (sv_4 ha1 q3.1 q3.2) rfl (fn_4_1 (sv_4 ha1 q3.1 q3.2)) ?_
        refine g_aload_n X 1 dX7_carryState_100 rfl ?_
        refine g_iload X 2 dX7_carryState_101 rfl ?_
        refine g_aald X (f := (fin a3 (v4).toNat)) dX7_carryState_103 ha3 (by decide) q3.1 q3.2 rfl ?_
        refine g_getF X (f := ((fin a3 (v4).toNat) + 12)) dX7_carryState_104 lf_X7_144 (sv_4 ha3 q3.1 q3.2) rfl (fn_4_1 (sv_4 ha3 q3.1 q3.2)) ?_
        refine g_cSV X (K := K_X7_copyDigits) [.ref ((fin a1 (v4).toNat) + 12), .ref ((fin a3 (v4).toNat) + 12)] [] dX7_carryState_107 ls_X7_185 rm_X7_carryState_X7_copyDigits ⟨by decide, by decide⟩ adA_id rfl (Nat.le_of_ble_eq_true rfl) rfl h (fun s6 h => ?_)
        refine g_iinc X (x := v4) (lv' := [(4, .int (iI (v4 + 1))), (1, .ref a1), (3, .ref a3)]) 2 dX7_carryState_110 rfl (by decide) rfl ?_
        refine g_goto X (tgt := 51) dX7_carryState_113 (by decide) ?_
        exact g_sub (lv' := [(1, .ref a1), (3, .ref a3), (4, .int (iI (v4 + 1)))]) [1, 2, 0] rfl (h p l e s m args below meth c D cA ad X0 hr hlk)
      · obtain ⟨q7, h⟩ := h.2 r4 c5
        refine g_putP X (r := (some r4)) dX7_carryState_90 lp_X7_91 (sv_4 ha3 q3.1 q3.2) rfl rfl ?_
        refine g_aload_n X 0 dX7_carryState_93 rfl ?_
        refine g_iload X 2 dX7_carryState_94 rfl ?_
        refine g_aald X (f := (fin a1 (v4).toNat)) dX7_carryState_96 ha1 (by decide) q3.1 q3.2 rfl ?_
        refine g_getF X (f := ((fin a1 (v4).toNat) + 12)) dX7_carryState_97 lf_X7_144 (sv_4 ha1 q3.1 q3.2) rfl (fn_4_1 (sv_4 ha1 q3.1 q3.2)) ?_
        refine g_aload_n X 1 dX7_carryState_100 rfl ?_
        refine g_iload X 2 dX7_carryState_101 rfl ?_
        refine g_aald X (f := (fin a3 (v4).toNat)) dX7_carryState_103 ha3 (by decide) q3.1 q3.2 rfl ?_
        refine g_getF X (f := ((fin a3 (v4).toNat) + 12)) dX7_carryState_104 lf_X7_144 (sv_4 ha3 q3.1 q3.2) rfl (fn_4_1 (sv_4 ha3 q3.1 q3.2)) ?_
        refine g_cSV X (K := K_X7_copyDigits) [.ref ((fin a1 (v4).toNat) + 12), .ref ((fin a3 (v4).toNat) + 12)] [] dX7_carryState_107 ls_X7_185 rm_X7_carryState_X7_copyDigits ⟨by decide, by decide⟩ adA_id rfl (Nat.le_of_ble_eq_true rfl) rfl h (fun s8 h => ?_)
        refine g_iinc X (x := v4) (lv' := [(4, .int (iI (v4 + 1))), (1, .ref a1), (3, .ref a3)]) 2 dX7_carryState_110 rfl (by decide) rfl ?_
        refine g_goto X (tgt := 51) dX7_carryState_113 (by decide) ?_
        exact g_sub (lv' := [(1, .ref a1), (3, .ref a3), (4, .int (iI (v4 + 1)))]) [1, 2, 0] rfl (h p l e s m args below meth c D cA ad X0 hr hlk)
theorem bX7_rowAt_0 {v1 : Int} {σ : ASt} {Qn : ASt → Prop} {Qs : Nat → ASt → Prop}  (h : EvZ K_X7_isWithin [.int (iI v1), .int (iI 0), .int (iI 2)] σ (fun s1 => ((0 : Int) ≤ v1 ∧ v1 < 3) ∧ Qs (66 + (v1).toNat) s1) (fun s1 => Qn s1)) : Wx K_X7_rowAt (QR 2 Qn Qs) 0 [(0, .ref 0), (1, .int (iI v1))] [] σ := by
  intro p l e s m args below meth c D cA ad X0 hr hlk
  have X : Cx p s m args c (adA ad) D cA ad RX7 cX7_rowAt 2 := X0
  refine g_iload_n X 1 dX7_rowAt_0 rfl ?_
  refine g_iconst X dX7_rowAt_1 ?_
  refine g_iconst X dX7_rowAt_2 ?_
  refine g_cSZ X (K := K_X7_isWithin) [.int (iI v1), .int (iI 0), .int (iI 2)] [] dX7_rowAt_3 ls_X7_102 rm_X7_rowAt_X7_isWithin ⟨by decide, by decide⟩ adA_id rfl (Nat.le_of_ble_eq_true rfl) rfl h (fun s1 h => ?_) (fun s1 h => ?_)
  · skip
    refine g_if_eq X (tgt := 18) dX7_rowAt_6 (by decide) (by omega) (fun hc => absurd hc (by decide)) (fun _ => ?_)
    refine g_aload_n X 0 dX7_rowAt_9 rfl ?_
    refine g_getF X (f := 5) dX7_rowAt_10 lf_X7_25 rfl rfl rfl ?_
    refine g_iload_n X 1 dX7_rowAt_13 rfl ?_
    obtain ⟨q2, h⟩ := h
    refine g_aald X (f := (66 + (v1).toNat)) dX7_rowAt_14 rfl (by decide) q2.1 q2.2 rfl ?_
    refine g_goto X (tgt := 19) dX7_rowAt_15 (by decide) ?_
    exact g_aret X hr hlk dX7_rowAt_19 (Or.inr ⟨_, rfl, (se_5 q2.1 q2.2), h⟩)
  · skip
    refine g_if_eq X (tgt := 18) dX7_rowAt_6 (by decide) (by omega) (fun _ => ?_) (fun hc => absurd hc (by decide))
    refine g_null X dX7_rowAt_18 ?_
    exact g_aretN X hr hlk dX7_rowAt_19 (Or.inl ⟨rfl, h⟩)
theorem eX7_rowAt {v1 : Int} {σ : ASt} {Qn : ASt → Prop} {Qs : Nat → ASt → Prop}  (h : EvZ K_X7_isWithin [.int (iI v1), .int (iI 0), .int (iI 2)] σ (fun s1 => ((0 : Int) ≤ v1 ∧ v1 < 3) ∧ Qs (66 + (v1).toNat) s1) (fun s1 => Qn s1)) : EvR 2 K_X7_rowAt [.ref 0, .int (iI v1)] σ Qn Qs := Ev.of rfl (Nat.le_of_ble_eq_true rfl) rfl (bX7_rowAt_0  h)
theorem bX7_copy_0 {v1 : Int} {v2 : Int} {v3 : Int} {v4 : Int} {v5 : Int} {σ : ASt} {Q : Int → ASt → Prop} (h32v5 : i32 v5) (h : EvR 2 K_X7_rowAt [.ref 0, .int (iI v1)] σ (fun s1 => EvR 2 K_X7_rowAt [.ref 0, .int (iI v3)] s1 (fun s4 => Q (-2) s4) (fun r5 s4 => Q (-2) s4)) (fun r2 s1 => EvR 2 K_X7_rowAt [.ref 0, .int (iI v3)] s1 (fun s7 => Q (-2) s7) (fun r8 s7 => EvZ K_X2_isMissing [.ref r2] s7 (fun s10 => Q (-11) s10) (fun s10 => EvZ K_X2_isMissing [.ref r8] s10 (fun s11 => Q (-11) s11) (fun s11 => EvZ K_X2_hasRange [.ref r2, .int (iI v2), .int (iI v5)] s11 (fun s12 => EvZ K_X2_hasRange [.ref r8, .int (iI v4), .int (iI v5)] s12 (fun s13 => (0 : Int) ≤ v2 ∧ (0 : Int) ≤ v4 ∧ (0 : Int) ≤ v5 ∧ (v2 : Int) + v5 ≤ 60 ∧ (v4 : Int) + v5 ≤ 60 ∧ Q v5 (cL s13 (r2 + 3) (r8 + 3) v2 v4 v5)) (fun s13 => Q (-12) s13)) (fun s12 => Q (-12) s12)))))) : Wx K_X7_copy (QI Q) 0 [(0, .ref 0), (1, .int (iI v1)), (2, .int (iI v2)), (3, .int (iI v3)), (4, .int (iI v4)), (5, .int (iI v5))] [] σ := by
  intro p l e s m args below meth c D cA ad X0 hr hlk
  have X : Cx p s m args c (adA ad) D cA ad RX7 cX7_copy 8 := X0
  refine g_aload_n X 0 dX7_copy_0 rfl ?_
  refine g_iload_n X 1 dX7_copy_1 rfl ?_
  refine g_cVR X (K := K_X7_rowAt) [.int (iI v1)] [] dX7_copy_2 lv_X7_256 rm_X7_copy_X7_rowAt ⟨by decide, by decide⟩ adA_id rfl rfl rfl (Nat.le_of_ble_eq_true rfl) rfl h (fun s1 h => ?_) (fun r2 s1 q3 h => ?_)
  · skip
    refine g_astoreN X (lv' := [(6, .null), (0, .ref 0), (1, .int (iI v1)), (2, .int (iI v2)), (3, .int (iI v3)), (4, .int (iI v4)), (5, .int (iI v5))]) dX7_copy_5 (by decide) rfl ?_
    refine g_aload_n X 1 dX7_copy_7 rfl ?_
    refine g_iload_n X 4 dX7_copy_8 rfl ?_
    refine g_cVR X (K := K_X7_rowAt) [.int (iI v3)] [] dX7_copy_9 lv_X7_256 rm_X7_copy_X7_rowAt ⟨by decide, by decide⟩ adA_id rfl rfl rfl (Nat.le_of_ble_eq_true rfl) rfl h (fun s4 h => ?_) (fun r5 s4 q6 h => ?_)
    · skip
      refine g_astoreN X (lv' := [(7, .null), (6, .null), (0, .ref 0), (1, .int (iI v1)), (2, .int (iI v2)), (3, .int (iI v3)), (4, .int (iI v4)), (5, .int (iI v5))]) dX7_copy_12 (by decide) rfl ?_
      refine g_aloadN X 1 dX7_copy_14 rfl ?_
      refine g_ifnullN X (tgt := 24) dX7_copy_16 (by decide) ?_
      refine g_bipush X dX7_copy_24 (by decide +kernel) ?_
      exact g_iret X hr hlk dX7_copy_26 rfl ⟨_, rfl, (by omega), h⟩
    · skip
      refine g_astore X (lv' := [(7, .ref r5), (6, .null), (0, .ref 0), (1, .int (iI v1)), (2, .int (iI v2)), (3, .int (iI v3)), (4, .int (iI v4)), (5, .int (iI v5))]) dX7_copy_12 (by decide) rfl ?_
      refine g_aloadN X 1 dX7_copy_14 rfl ?_
      refine g_ifnullN X (tgt := 24) dX7_copy_16 (by decide) ?_
      refine g_bipush X dX7_copy_24 (by decide +kernel) ?_
      exact g_iret X hr hlk dX7_copy_26 rfl ⟨_, rfl, (by omega), h⟩
  · skip
    refine g_astore X (lv' := [(6, .ref r2), (0, .ref 0), (1, .int (iI v1)), (2, .int (iI v2)), (3, .int (iI v3)), (4, .int (iI v4)), (5, .int (iI v5))]) dX7_copy_5 (by decide) rfl ?_
    refine g_aload_n X 1 dX7_copy_7 rfl ?_
    refine g_iload_n X 4 dX7_copy_8 rfl ?_
    refine g_cVR X (K := K_X7_rowAt) [.int (iI v3)] [] dX7_copy_9 lv_X7_256 rm_X7_copy_X7_rowAt ⟨by decide, by decide⟩ adA_id rfl rfl rfl (Nat.le_of_ble_eq_true rfl) rfl h (fun s7 h => ?_) (fun r8 s7 q9 h => ?_)
    · skip
      refine g_astoreN X (lv' := [(7, .null), (6, .ref r2), (0, .ref 0), (1, .int (iI v1)), (2, .int (iI v2)), (3, .int (iI v3)), (4, .int (iI v4)), (5, .int (iI v5))]) dX7_copy_12 (by decide) rfl ?_
      refine g_aload X 1 dX7_copy_14 rfl ?_
      refine g_ifnull X dX7_copy_16 ?_
      refine g_aloadN X 0 dX7_copy_19 rfl ?_
      refine g_ifnonnullN X dX7_copy_21 ?_
      refine g_bipush X dX7_copy_24 (by decide +kernel) ?_
      exact g_iret X hr hlk dX7_copy_26 rfl ⟨_, rfl, (by omega), h⟩
    · skip
      refine g_astore X (lv' := [(7, .ref r8), (6, .ref r2), (0, .ref 0), (1, .int (iI v1)), (2, .int (iI v2)), (3, .int (iI v3)), (4, .int (iI v4)), (5, .int (iI v5))]) dX7_copy_12 (by decide) rfl ?_
      refine g_aload X 1 dX7_copy_14 rfl ?_
      refine g_ifnull X dX7_copy_16 ?_
      refine g_aload X 0 dX7_copy_19 rfl ?_
      refine g_ifnonnull X (tgt := 27) dX7_copy_21 (by decide) ?_
      refine g_aload X 1 dX7_copy_27 rfl ?_
      refine g_cVZ X (K := K_X2_isMissing) [] [] dX7_copy_29 lv_X7_263 rm_X7_copy_X2_isMissing ⟨by decide, by decide⟩ adA_id q3 rfl rfl (Nat.le_of_ble_eq_true rfl) rfl h (fun s10 h => ?_) (fun s10 h => ?_)
      · skip
        refine g_if_ne X (tgt := 43) dX7_copy_32 (by decide) (by omega) (fun _ => ?_) (fun hc => absurd hc (by decide))
        refine g_bipush X dX7_copy_43 (by decide +kernel) ?_
        exact g_iret X hr hlk dX7_copy_45 rfl ⟨_, rfl, (by omega), h⟩
      · skip
        refine g_if_ne X (tgt := 43) dX7_copy_32 (by decide) (by omega) (fun hc => absurd hc (by decide)) (fun _ => ?_)
        refine g_aload X 0 dX7_copy_35 rfl ?_
        refine g_cVZ X (K := K_X2_isMissing) [] [] dX7_copy_37 lv_X7_263 rm_X7_copy_X2_isMissing ⟨by decide, by decide⟩ adA_id q9 rfl rfl (Nat.le_of_ble_eq_true rfl) rfl h (fun s11 h => ?_) (fun s11 h => ?_)
        · skip
          refine g_if_eq X (tgt := 46) dX7_copy_40 (by decide) (by omega) (fun hc => absurd hc (by decide)) (fun _ => ?_)
          refine g_bipush X dX7_copy_43 (by decide +kernel) ?_
          exact g_iret X hr hlk dX7_copy_45 rfl ⟨_, rfl, (by omega), h⟩
        · skip
          refine g_if_eq X (tgt := 46) dX7_copy_40 (by decide) (by omega) (fun _ => ?_) (fun hc => absurd hc (by decide))
          refine g_aload X 1 dX7_copy_46 rfl ?_
          refine g_iload_n X 4 dX7_copy_48 rfl ?_
          refine g_iload X 7 dX7_copy_49 rfl ?_
          refine g_cVZ X (K := K_X2_hasRange) [.int (iI v2), .int (iI v5)] [] dX7_copy_51 lv_X7_271 rm_X7_copy_X2_hasRange ⟨by decide, by decide⟩ adA_id q3 rfl rfl (Nat.le_of_ble_eq_true rfl) rfl h (fun s12 h => ?_) (fun s12 h => ?_)
          · skip
            refine g_if_eq X (tgt := 69) dX7_copy_54 (by decide) (by omega) (fun hc => absurd hc (by decide)) (fun _ => ?_)
            refine g_aload X 0 dX7_copy_57 rfl ?_
            refine g_iload X 6 dX7_copy_59 rfl ?_
            refine g_iload X 7 dX7_copy_61 rfl ?_
            refine g_cVZ X (K := K_X2_hasRange) [.int (iI v4), .int (iI v5)] [] dX7_copy_63 lv_X7_271 rm_X7_copy_X2_hasRange ⟨by decide, by decide⟩ adA_id q9 rfl rfl (Nat.le_of_ble_eq_true rfl) rfl h (fun s13 h => ?_) (fun s13 h => ?_)
            · skip
              refine g_if_ne X (tgt := 72) dX7_copy_66 (by decide) (by omega) (fun _ => ?_) (fun hc => absurd hc (by decide))
              refine g_aload X 1 dX7_copy_72 rfl ?_
              refine g_getF X (f := (r2 + 3)) dX7_copy_74 lf_X7_268 q3 rfl (fn_2_0 q3) ?_
              refine g_iload_n X 4 dX7_copy_77 rfl ?_
              refine g_aload X 0 dX7_copy_78 rfl ?_
              refine g_getF X (f := (r8 + 3)) dX7_copy_80 lf_X7_268 q9 rfl (fn_2_0 q9) ?_
              refine g_iload X 6 dX7_copy_83 rfl ?_
              refine g_iload X 7 dX7_copy_85 rfl ?_
              obtain ⟨q14, h⟩ := h
              obtain ⟨q15, h⟩ := h
              obtain ⟨q16, h⟩ := h
              obtain ⟨q17, h⟩ := h
              obtain ⟨q18, h⟩ := h
              refine g_copyL X dX7_copy_87 la_X7_274 (by decide) (Nat.le_of_ble_eq_true rfl) (sf_2_0 q3) (sf_2_0 q9) q14 q15 q16 q17 q18 ?_
              refine g_iload X 7 dX7_copy_90 rfl ?_
              exact g_iret X hr hlk dX7_copy_92 rfl ⟨_, rfl, h32v5, h⟩
            · skip
              refine g_if_ne X (tgt := 72) dX7_copy_66 (by decide) (by omega) (fun hc => absurd hc (by decide)) (fun _ => ?_)
              refine g_bipush X dX7_copy_69 (by decide +kernel) ?_
              exact g_iret X hr hlk dX7_copy_71 rfl ⟨_, rfl, (by omega), h⟩
          · skip
            refine g_if_eq X (tgt := 69) dX7_copy_54 (by decide) (by omega) (fun _ => ?_) (fun hc => absurd hc (by decide))
            refine g_bipush X dX7_copy_69 (by decide +kernel) ?_
            exact g_iret X hr hlk dX7_copy_71 rfl ⟨_, rfl, (by omega), h⟩
theorem eX7_copy {v1 : Int} {v2 : Int} {v3 : Int} {v4 : Int} {v5 : Int} {σ : ASt} {Q : Int → ASt → Prop} (h32v5 : i32 v5) (h : EvR 2 K_X7_rowAt [.ref 0, .int (iI v1)] σ (fun s1 => EvR 2 K_X7_rowAt [.ref 0, .int (iI v3)] s1 (fun s4 => Q (-2) s4) (fun r5 s4 => Q (-2) s4)) (fun r2 s1 => EvR 2 K_X7_rowAt [.ref 0, .int (iI v3)] s1 (fun s7 => Q (-2) s7) (fun r8 s7 => EvZ K_X2_isMissing [.ref r2] s7 (fun s10 => Q (-11) s10) (fun s10 => EvZ K_X2_isMissing [.ref r8] s10 (fun s11 => Q (-11) s11) (fun s11 => EvZ K_X2_hasRange [.ref r2, .int (iI v2), .int (iI v5)] s11 (fun s12 => EvZ K_X2_hasRange [.ref r8, .int (iI v4), .int (iI v5)] s12 (fun s13 => (0 : Int) ≤ v2 ∧ (0 : Int) ≤ v4 ∧ (0 : Int) ≤ v5 ∧ (v2 : Int) + v5 ≤ 60 ∧ (v4 : Int) + v5 ≤ 60 ∧ Q v5 (cL s13 (r2 + 3) (r8 + 3) v2 v4 v5)) (fun s13 => Q (-12) s13)) (fun s12 => Q (-12) s12)))))) : EvI K_X7_copy [.ref 0, .int (iI v1), .int (iI v2), .int (iI v3), .int (iI v4), .int (iI v5)] σ Q := Ev.of rfl (Nat.le_of_ble_eq_true rfl) rfl (bX7_copy_0 h32v5 h)
theorem bX7_countReels_0 {σ : ASt} {Q : Int → ASt → Prop}  (h : Wx K_X7_countReels (QI Q) 4 [(0, .ref 0), (1, .int (iI 0)), (2, .int (iI 0))] [] σ) : Wx K_X7_countReels (QI Q) 0 [(0, .ref 0)] [] σ := by
  intro p l e s m args below meth c D cA ad X0 hr hlk
  have X : Cx p s m args c (adA ad) D cA ad RX7 cX7_countReels 4 := X0
  refine g_iconst X dX7_countReels_0 ?_
  refine g_istore_n X (lv' := [(1, .int (iI 0)), (0, .ref 0)]) dX7_countReels_1 (by decide) rfl ?_
  refine g_iconst X dX7_countReels_2 ?_
  refine g_istore_n X (lv' := [(2, .int (iI 0)), (1, .int (iI 0)), (0, .ref 0)]) dX7_countReels_3 (by decide) rfl ?_
  exact g_sub (lv' := [(0, .ref 0), (1, .int (iI 0)), (2, .int (iI 0))]) [2, 1, 0] rfl (h p l e s m args below meth c D cA ad X0 hr hlk)
theorem eX7_countReels {σ : ASt} {Q : Int → ASt → Prop}  (h : Wx K_X7_countReels (QI Q) 4 [(0, .ref 0), (1, .int (iI 0)), (2, .int (iI 0))] [] σ) : EvI K_X7_countReels [.ref 0] σ Q := Ev.of rfl (Nat.le_of_ble_eq_true rfl) rfl (bX7_countReels_0  h)
theorem bX7_countReels_4 {v1 : Int} {v2 : Int} {σ : ASt} {Q : Int → ASt → Prop} (h32v1 : i32 v1) (h32v2 : i32 v2) (h : ((6 ≤ v2 → Q v1 σ) ∧ (v2 < 6 → EvR 4 K_X7_reelAt [.ref 0, .int (iI v2)] σ (fun s2 => Wx K_X7_countReels (QI Q) 4 [(0, .ref 0), (1, .int (iI v1)), (2, .int (iI (v2 + 1)))] [] s2) (fun r3 s2 => ((gP s2 r3 0 = none → Wx K_X7_countReels (QI Q) 4 [(0, .ref 0), (1, .int (iI v1)), (2, .int (iI (v2 + 1)))] [] s2) ∧ (∀ r5 : Nat, gP s2 r3 0 = some r5 → shp r5 = (0, 0, 0) ∧ Wx K_X7_countReels (QI Q) 4 [(0, .ref 0), (1, .int (iI (v1 + 1))), (2, .int (iI (v2 + 1)))] [] s2)))))) : Wx K_X7_countReels (QI Q) 4 [(0, .ref 0), (1, .int (iI v1)), (2, .int (iI v2))] [] σ := by
  intro p l e s m args below meth c D cA ad X0 hr hlk
  have X : Cx p s m args c (adA ad) D cA ad RX7 cX7_countReels 4 := X0
  refine g_iload_n X 2 dX7_countReels_4 rfl ?_
  refine g_bipush X dX7_countReels_5 (by decide +kernel) ?_
  refine g_icmp_ge X (tgt := 36) dX7_countReels_7 (by decide) h32v2 (by omega) (fun c1 => ?_) (fun c1 => ?_)
  · have h := h.1 c1
    refine g_iload_n X 1 dX7_countReels_36 rfl ?_
    exact g_iret X hr hlk dX7_countReels_37 rfl ⟨_, rfl, h32v1, h⟩
  · have h := h.2 c1
    refine g_aload_n X 0 dX7_countReels_10 rfl ?_
    refine g_iload_n X 2 dX7_countReels_11 rfl ?_
    refine g_cVR X (K := K_X7_reelAt) [.int (iI v2)] [] dX7_countReels_12 lv_X7_87 rm_X7_countReels_X7_reelAt ⟨by decide, by decide⟩ adA_id rfl rfl rfl (Nat.le_of_ble_eq_true rfl) rfl h (fun s2 h => ?_) (fun r3 s2 q4 h => ?_)
    · skip
      refine g_astore_nN X (lv' := [(3, .null), (0, .ref 0), (1, .int (iI v1)), (2, .int (iI v2))]) dX7_countReels_15 (by decide) rfl ?_
      refine g_aload_nN X 0 dX7_countReels_16 rfl ?_
      refine g_ifnullN X (tgt := 30) dX7_countReels_17 (by decide) ?_
      refine g_iinc X (x := v2) (lv' := [(2, .int (iI (v2 + 1))), (3, .null), (0, .ref 0), (1, .int (iI v1))]) 3 dX7_countReels_30 rfl (by decide) rfl ?_
      refine g_goto X (tgt := 4) dX7_countReels_33 (by decide) ?_
      exact g_sub (lv' := [(0, .ref 0), (1, .int (iI v1)), (2, .int (iI (v2 + 1)))]) [2, 3, 0] rfl (h p l e s m args below meth c D cA ad X0 hr hlk)
    · skip
      refine g_astore_n X (lv' := [(3, .ref r3), (0, .ref 0), (1, .int (iI v1)), (2, .int (iI v2))]) dX7_countReels_15 (by decide) rfl ?_
      refine g_aload_n X 0 dX7_countReels_16 rfl ?_
      refine g_ifnull X dX7_countReels_17 ?_
      refine g_aload_n X 0 dX7_countReels_20 rfl ?_
      refine g_getP X dX7_countReels_21 lf_X7_91 q4 rfl (fun c6 => ?_) (fun r5 c6 => ?_)
      · have h := h.1 c6
        refine g_ifnullN X (tgt := 30) dX7_countReels_24 (by decide) ?_
        refine g_iinc X (x := v2) (lv' := [(2, .int (iI (v2 + 1))), (3, .ref r3), (0, .ref 0), (1, .int (iI v1))]) 3 dX7_countReels_30 rfl (by decide) rfl ?_
        refine g_goto X (tgt := 4) dX7_countReels_33 (by decide) ?_
        exact g_sub (lv' := [(0, .ref 0), (1, .int (iI v1)), (2, .int (iI (v2 + 1)))]) [2, 3, 0] rfl (h p l e s m args below meth c D cA ad X0 hr hlk)
      · obtain ⟨q7, h⟩ := h.2 r5 c6
        refine g_ifnull X dX7_countReels_24 ?_
        refine g_iinc X (x := v1) (lv' := [(1, .int (iI (v1 + 1))), (3, .ref r3), (0, .ref 0), (2, .int (iI v2))]) 2 dX7_countReels_27 rfl (by decide) rfl ?_
        refine g_iinc X (x := v2) (lv' := [(2, .int (iI (v2 + 1))), (1, .int (iI (v1 + 1))), (3, .ref r3), (0, .ref 0)]) 3 dX7_countReels_30 rfl (by decide) rfl ?_
        refine g_goto X (tgt := 4) dX7_countReels_33 (by decide) ?_
        exact g_sub (lv' := [(0, .ref 0), (1, .int (iI (v1 + 1))), (2, .int (iI (v2 + 1)))]) [3, 1, 0] rfl (h p l e s m args below meth c D cA ad X0 hr hlk)
theorem bX7_countRows_0 {σ : ASt} {Q : Int → ASt → Prop}  (h : Wx K_X7_countRows (QI Q) 4 [(0, .ref 0), (1, .int (iI 0)), (2, .int (iI 0))] [] σ) : Wx K_X7_countRows (QI Q) 0 [(0, .ref 0)] [] σ := by
  intro p l e s m args below meth c D cA ad X0 hr hlk
  have X : Cx p s m args c (adA ad) D cA ad RX7 cX7_countRows 4 := X0
  refine g_iconst X dX7_countRows_0 ?_
  refine g_istore_n X (lv' := [(1, .int (iI 0)), (0, .ref 0)]) dX7_countRows_1 (by decide) rfl ?_
  refine g_iconst X dX7_countRows_2 ?_
  refine g_istore_n X (lv' := [(2, .int (iI 0)), (1, .int (iI 0)), (0, .ref 0)]) dX7_countRows_3 (by decide) rfl ?_
  exact g_sub (lv' := [(0, .ref 0), (1, .int (iI 0)), (2, .int (iI 0))]) [2, 1, 0] rfl (h p l e s m args below meth c D cA ad X0 hr hlk)
theorem eX7_countRows {σ : ASt} {Q : Int → ASt → Prop}  (h : Wx K_X7_countRows (QI Q) 4 [(0, .ref 0), (1, .int (iI 0)), (2, .int (iI 0))] [] σ) : EvI K_X7_countRows [.ref 0] σ Q := Ev.of rfl (Nat.le_of_ble_eq_true rfl) rfl (bX7_countRows_0  h)
theorem bX7_countRows_4 {v1 : Int} {v2 : Int} {σ : ASt} {Q : Int → ASt → Prop} (h32v1 : i32 v1) (h32v2 : i32 v2) (h : ((3 ≤ v2 → Q v1 σ) ∧ (v2 < 3 → EvR 2 K_X7_rowAt [.ref 0, .int (iI v2)] σ (fun s2 => Wx K_X7_countRows (QI Q) 4 [(0, .ref 0), (1, .int (iI v1)), (2, .int (iI (v2 + 1)))] [] s2) (fun r3 s2 => EvZ K_X2_isMissing [.ref r3] s2 (fun s5 => Wx K_X7_countRows (QI Q) 4 [(0, .ref 0), (1, .int (iI v1)), (2, .int (iI (v2 + 1)))] [] s5) (fun s5 => Wx K_X7_countRows (QI Q) 4 [(0, .ref 0), (1, .int (iI (v1 + 1))), (2, .int (iI (v2 + 1)))] [] s5))))) : Wx K_X7_countRows (QI Q) 4 [(0, .ref 0), (1, .int (iI v1)), (2, .int (iI v2))] [] σ := by
  intro p l e s m args below meth c D cA ad X0 hr hlk
  have X : Cx p s m args c (adA ad) D cA ad RX7 cX7_countRows 4 := X0
  refine g_iload_n X 2 dX7_countRows_4 rfl ?_
  refine g_iconst X dX7_countRows_5 ?_
  refine g_icmp_ge X (tgt := 35) dX7_countRows_6 (by decide) h32v2 (by omega) (fun c1 => ?_) (fun c1 => ?_)
  · have h := h.1 c1
    refine g_iload_n X 1 dX7_countRows_35 rfl ?_
    exact g_iret X hr hlk dX7_countRows_36 rfl ⟨_, rfl, h32v1, h⟩
  · have h := h.2 c1
    refine g_aload_n X 0 dX7_countRows_9 rfl ?_
    refine g_iload_n X 2 dX7_countRows_10 rfl ?_
    refine g_cVR X (K := K_X7_rowAt) [.int (iI v2)] [] dX7_countRows_11 lv_X7_256 rm_X7_countRows_X7_rowAt ⟨by decide, by decide⟩ adA_id rfl rfl rfl (Nat.le_of_ble_eq_true rfl) rfl h (fun s2 h => ?_) (fun r3 s2 q4 h => ?_)
    · skip
      refine g_astore_nN X (lv' := [(3, .null), (0, .ref 0), (1, .int (iI v1)), (2, .int (iI v2))]) dX7_countRows_14 (by decide) rfl ?_
      refine g_aload_nN X 0 dX7_countRows_15 rfl ?_
      refine g_ifnullN X (tgt := 29) dX7_countRows_16 (by decide) ?_
      refine g_iinc X (x := v2) (lv' := [(2, .int (iI (v2 + 1))), (3, .null), (0, .ref 0), (1, .int (iI v1))]) 3 dX7_countRows_29 rfl (by decide) rfl ?_
      refine g_goto X (tgt := 4) dX7_countRows_32 (by decide) ?_
      exact g_sub (lv' := [(0, .ref 0), (1, .int (iI v1)), (2, .int (iI (v2 + 1)))]) [2, 3, 0] rfl (h p l e s m args below meth c D cA ad X0 hr hlk)
    · skip
      refine g_astore_n X (lv' := [(3, .ref r3), (0, .ref 0), (1, .int (iI v1)), (2, .int (iI v2))]) dX7_countRows_14 (by decide) rfl ?_
      refine g_aload_n X 0 dX7_countRows_15 rfl ?_
      refine g_ifnull X dX7_countRows_16 ?_
      refine g_aload_n X 0 dX7_countRows_19 rfl ?_
      refine g_cVZ X (K := K_X2_isMissing) [] [] dX7_countRows_20 lv_X7_263 rm_X7_countRows_X2_isMissing ⟨by decide, by decide⟩ adA_id q4 rfl rfl (Nat.le_of_ble_eq_true rfl) rfl h (fun s5 h => ?_) (fun s5 h => ?_)
      · skip
        refine g_if_ne X (tgt := 29) dX7_countRows_23 (by decide) (by omega) (fun _ => ?_) (fun hc => absurd hc (by decide))
        refine g_iinc X (x := v2) (lv' := [(2, .int (iI (v2 + 1))), (3, .ref r3), (0, .ref 0), (1, .int (iI v1))]) 3 dX7_countRows_29 rfl (by decide) rfl ?_
        refine g_goto X (tgt := 4) dX7_countRows_32 (by decide) ?_
        exact g_sub (lv' := [(0, .ref 0), (1, .int (iI v1)), (2, .int (iI (v2 + 1)))]) [2, 3, 0] rfl (h p l e s m args below meth c D cA ad X0 hr hlk)
      · skip
        refine g_if_ne X (tgt := 29) dX7_countRows_23 (by decide) (by omega) (fun hc => absurd hc (by decide)) (fun _ => ?_)
        refine g_iinc X (x := v1) (lv' := [(1, .int (iI (v1 + 1))), (3, .ref r3), (0, .ref 0), (2, .int (iI v2))]) 2 dX7_countRows_26 rfl (by decide) rfl ?_
        refine g_iinc X (x := v2) (lv' := [(2, .int (iI (v2 + 1))), (1, .int (iI (v1 + 1))), (3, .ref r3), (0, .ref 0)]) 3 dX7_countRows_29 rfl (by decide) rfl ?_
        refine g_goto X (tgt := 4) dX7_countRows_32 (by decide) ?_
        exact g_sub (lv' := [(0, .ref 0), (1, .int (iI (v1 + 1))), (2, .int (iI (v2 + 1)))]) [3, 1, 0] rfl (h p l e s m args below meth c D cA ad X0 hr hlk)
theorem bX7_count_0 {v1 : Int} {σ : ASt} {Q : Int → ASt → Prop} (h32v1 : i32 v1) (h : ((v1 = 0 → EvI K_X7_countReels [.ref 0] σ (fun x3 s2 => Q x3 s2)) ∧ (v1 = 1 → i32 ((gI σ 11 2)) ∧ Q (gI σ 11 2) σ) ∧ (v1 = 2 → i32 ((gI σ 9 1)) ∧ Q (gI σ 9 1) σ) ∧ (v1 = 3 → EvI K_X7_countRows [.ref 0] σ (fun x11 s10 => Q x11 s10)) ∧ (v1 < 0 ∨ 3 < v1 → Q (-2) σ))) : Wx K_X7_count (QI Q) 0 [(0, .ref 0), (1, .int (iI v1))] [] σ := by
  intro p l e s m args below meth c D cA ad X0 hr hlk
  have X : Cx p s m args c (adA ad) D cA ad RX7 cX7_count 2 := X0
  refine g_iload_n X 1 dX7_count_0 rfl ?_
  by_cases c1 : v1 = 0
  · have h := h.1 c1
    refine g_tswIn X (tgt := 32) 0 dX7_count_1 h32v1 (by omega) (by omega) rfl (by decide) ?_
    refine g_aload_n X 0 dX7_count_32 rfl ?_
    refine g_cVI X (K := K_X7_countReels) [] [] dX7_count_33 lv_X7_288 rm_X7_count_X7_countReels ⟨by decide, by decide⟩ adA_id rfl rfl rfl (Nat.le_of_ble_eq_true rfl) rfl h (fun x3 s2 q4 h => ?_)
    exact g_iret X hr hlk dX7_count_36 rfl ⟨_, rfl, q4, h⟩
  by_cases c5 : v1 = 1
  · have h := h.2.1 c5
    refine g_tswIn X (tgt := 37) 1 dX7_count_1 h32v1 (by omega) (by omega) rfl (by decide) ?_
    refine g_aload_n X 0 dX7_count_37 rfl ?_
    refine g_getF X (f := 11) dX7_count_38 lf_X7_39 rfl rfl rfl ?_
    refine g_getI X (z := 2) dX7_count_41 lf_X7_246 rfl rfl rfl ?_
    obtain ⟨q6, h⟩ := h
    exact g_iret X hr hlk dX7_count_44 rfl ⟨_, rfl, q6, h⟩
  by_cases c7 : v1 = 2
  · have h := h.2.2.1 c7
    refine g_tswIn X (tgt := 45) 2 dX7_count_1 h32v1 (by omega) (by omega) rfl (by decide) ?_
    refine g_aload_n X 0 dX7_count_45 rfl ?_
    refine g_getF X (f := 9) dX7_count_46 lf_X7_32 rfl rfl rfl ?_
    refine g_getI X (z := 1) dX7_count_49 lf_X7_238 rfl rfl rfl ?_
    obtain ⟨q8, h⟩ := h
    exact g_iret X hr hlk dX7_count_52 rfl ⟨_, rfl, q8, h⟩
  by_cases c9 : v1 = 3
  · have h := h.2.2.2.1 c9
    refine g_tswIn X (tgt := 53) 3 dX7_count_1 h32v1 (by omega) (by omega) rfl (by decide) ?_
    refine g_aload_n X 0 dX7_count_53 rfl ?_
    refine g_cVI X (K := K_X7_countRows) [] [] dX7_count_54 lv_X7_291 rm_X7_count_X7_countRows ⟨by decide, by decide⟩ adA_id rfl rfl rfl (Nat.le_of_ble_eq_true rfl) rfl h (fun x11 s10 q12 h => ?_)
    exact g_iret X hr hlk dX7_count_57 rfl ⟨_, rfl, q12, h⟩
  have h := h.2.2.2.2 (by omega)
  refine g_tswOut X (tgt := 58) dX7_count_1 h32v1 (by omega) (by decide) ?_
  refine g_bipush X dX7_count_58 (by decide +kernel) ?_
  exact g_iret X hr hlk dX7_count_60 rfl ⟨_, rfl, (by omega), h⟩
theorem eX7_count {v1 : Int} {σ : ASt} {Q : Int → ASt → Prop} (h32v1 : i32 v1) (h : ((v1 = 0 → EvI K_X7_countReels [.ref 0] σ (fun x3 s2 => Q x3 s2)) ∧ (v1 = 1 → i32 ((gI σ 11 2)) ∧ Q (gI σ 11 2) σ) ∧ (v1 = 2 → i32 ((gI σ 9 1)) ∧ Q (gI σ 9 1) σ) ∧ (v1 = 3 → EvI K_X7_countRows [.ref 0] σ (fun x11 s10 => Q x11 s10)) ∧ (v1 < 0 ∨ 3 < v1 → Q (-2) σ))) : EvI K_X7_count [.ref 0, .int (iI v1)] σ Q := Ev.of rfl (Nat.le_of_ble_eq_true rfl) rfl (bX7_count_0 h32v1 h)
theorem bX7_countNotZero_0 {a0 : Nat} {σ : ASt} {Q : Int → ASt → Prop} (ha0 : shp a0 = (1, 0, 43)) (h : Wx K_X7_countNotZero (QI Q) 10 [(1, .int (iI 0)), (2, .ref a0), (3, .int (iI 43)), (4, .int (iI 0))] [] σ) : Wx K_X7_countNotZero (QI Q) 0 [(0, .ref a0)] [] σ := by
  intro p l e s m args below meth c D cA ad X0 hr hlk
  have X : Cx p s m args c (adA ad) D cA ad RX7 cX7_countNotZero 6 := X0
  refine g_iconst X dX7_countNotZero_0 ?_
  refine g_istore_n X (lv' := [(1, .int (iI 0)), (0, .ref a0)]) dX7_countNotZero_1 (by decide) rfl ?_
  refine g_aload_n X 1 dX7_countNotZero_2 rfl ?_
  refine g_astore_n X (lv' := [(2, .ref a0), (1, .int (iI 0)), (0, .ref a0)]) dX7_countNotZero_3 (by decide) rfl ?_
  refine g_aload_n X 0 dX7_countNotZero_4 rfl ?_
  refine g_alen1 X (z := 43) dX7_countNotZero_5 ha0 rfl ?_
  refine g_istore_n X (lv' := [(3, .int (iI 43)), (2, .ref a0), (1, .int (iI 0)), (0, .ref a0)]) dX7_countNotZero_6 (by decide) rfl ?_
  refine g_iconst X dX7_countNotZero_7 ?_
  refine g_istore X (lv' := [(4, .int (iI 0)), (3, .int (iI 43)), (2, .ref a0), (1, .int (iI 0)), (0, .ref a0)]) dX7_countNotZero_8 (by decide) rfl ?_
  exact g_sub (lv' := [(1, .int (iI 0)), (2, .ref a0), (3, .int (iI 43)), (4, .int (iI 0))]) [3, 2, 1, 0] rfl (h p l e s m args below meth c D cA ad X0 hr hlk)
theorem eX7_countNotZero {a0 : Nat} {σ : ASt} {Q : Int → ASt → Prop} (ha0 : shp a0 = (1, 0, 43)) (h : Wx K_X7_countNotZero (QI Q) 10 [(1, .int (iI 0)), (2, .ref a0), (3, .int (iI 43)), (4, .int (iI 0))] [] σ) : EvI K_X7_countNotZero [.ref a0] σ Q := Ev.of rfl (Nat.le_of_ble_eq_true rfl) rfl (bX7_countNotZero_0 ha0 h)
theorem bX7_countNotZero_10 {v1 : Int} {a2 : Nat} {v3 : Int} {v4 : Int} {σ : ASt} {Q : Int → ASt → Prop} (ha2 : shp a2 = (1, 0, 43)) (h32v1 : i32 v1) (h32v3 : i32 v3) (h32v4 : i32 v4) (h : ((v3 ≤ v4 → Q v1 σ) ∧ (v4 < v3 → ((0 : Int) ≤ v4 ∧ v4 < 43) ∧ i32 ((gI σ a2 v4)) ∧ (((gI σ a2 v4) = 0 → Wx K_X7_countNotZero (QI Q) 10 [(1, .int (iI v1)), (2, .ref a2), (3, .int (iI v3)), (4, .int (iI (v4 + 1)))] [] σ) ∧ ((gI σ a2 v4) ≠ 0 → Wx K_X7_countNotZero (QI Q) 10 [(1, .int (iI (v1 + 1))), (2, .ref a2), (3, .int (iI v3)), (4, .int (iI (v4 + 1)))] [] σ))))) : Wx K_X7_countNotZero (QI Q) 10 [(1, .int (iI v1)), (2, .ref a2), (3, .int (iI v3)), (4, .int (iI v4))] [] σ := by
  intro p l e s m args below meth c D cA ad X0 hr hlk
  have X : Cx p s m args c (adA ad) D cA ad RX7 cX7_countNotZero 6 := X0
  refine g_iload X 3 dX7_countNotZero_10 rfl ?_
  refine g_iload_n X 2 dX7_countNotZero_12 rfl ?_
  refine g_icmp_ge X (tgt := 36) dX7_countNotZero_13 (by decide) h32v4 h32v3 (fun c1 => ?_) (fun c1 => ?_)
  · have h := h.1 c1
    refine g_iload_n X 0 dX7_countNotZero_36 rfl ?_
    exact g_iret X hr hlk dX7_countNotZero_37 rfl ⟨_, rfl, h32v1, h⟩
  · have h := h.2 c1
    refine g_aload_n X 1 dX7_countNotZero_16 rfl ?_
    refine g_iload X 3 dX7_countNotZero_17 rfl ?_
    obtain ⟨q2, h⟩ := h
    refine g_iald X dX7_countNotZero_19 ha2 q2.1 q2.2 ?_
    refine g_istore X (lv' := [(5, .int (iI (gI σ a2 v4))), (1, .int (iI v1)), (2, .ref a2), (3, .int (iI v3)), (4, .int (iI v4))]) dX7_countNotZero_20 (by decide) rfl ?_
    refine g_iload X 0 dX7_countNotZero_22 rfl ?_
    obtain ⟨q3, h⟩ := h
    refine g_if_eq X (tgt := 30) dX7_countNotZero_24 (by decide) q3 (fun c4 => ?_) (fun c4 => ?_)
    · have h := h.1 c4
      refine g_iinc X (x := v4) (lv' := [(4, .int (iI (v4 + 1))), (5, .int (iI (gI σ a2 v4))), (1, .int (iI v1)), (2, .ref a2), (3, .int (iI v3))]) 4 dX7_countNotZero_30 rfl (by decide) rfl ?_
      refine g_goto X (tgt := 10) dX7_countNotZero_33 (by decide) ?_
      exact g_sub (lv' := [(1, .int (iI v1)), (2, .ref a2), (3, .int (iI v3)), (4, .int (iI (v4 + 1)))]) [2, 3, 4, 0] rfl (h p l e s m args below meth c D cA ad X0 hr hlk)
    · have h := h.2 c4
      refine g_iinc X (x := v1) (lv' := [(1, .int (iI (v1 + 1))), (5, .int (iI (gI σ a2 v4))), (2, .ref a2), (3, .int (iI v3)), (4, .int (iI v4))]) 1 dX7_countNotZero_27 rfl (by decide) rfl ?_
      refine g_iinc X (x := v4) (lv' := [(4, .int (iI (v4 + 1))), (1, .int (iI (v1 + 1))), (5, .int (iI (gI σ a2 v4))), (2, .ref a2), (3, .int (iI v3))]) 4 dX7_countNotZero_30 rfl (by decide) rfl ?_
      refine g_goto X (tgt := 10) dX7_countNotZero_33 (by decide) ?_
      exact g_sub (lv' := [(1, .int (iI (v1 + 1))), (2, .ref a2), (3, .int (iI v3)), (4, .int (iI (v4 + 1)))]) [1, 3, 4, 0] rfl (h p l e s m args below meth c D cA ad X0 hr hlk)
