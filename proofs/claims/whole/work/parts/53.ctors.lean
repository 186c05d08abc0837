/-! by program (wip/whole/genctor.py): the small constructors -/
theorem ct_X1 (cA : Nat → ClassId) (h : Nat) : Ctr K_X1_init [.ref h] cA [(h, .inr (1, [.null, .null, .int (iI 0)]))] (fun w1 => ∃ q1 q2 : Nat, w1 = (q2, .inl (cA 0, 516, .inl (fun _ => iI 0))) :: (q1, .inl (cA 0, 12, .inl (fun _ => iI 0))) :: (h, .inr (1, [.ref q1, .ref q2, .int (iI 0)])) :: []) := by
  refine Ctr.of rfl rfl rfl (Nat.le_of_ble_eq_true rfl) (fun p l e s m args below meth c D X0 hin9 hr hlk => ?_)
  have X : Cc p s m args c (cF _ s.heap.size) D cA RX1 cX1_init 1 := X0
  refine c_eq (ws' := (h, .inr (1, [.null, .null, .int (iI 0)])) :: []) rfl ?_
  refine c_aload X 0 dX1_init_0 rfl ?_
  refine c_obj X dX1_init_1 (wmem 90 (by decide +kernel) rfl) (wmem 62 (by decide +kernel) rfl) (wmem 63 rfl rfl) (Nat.le_of_ble_eq_true rfl) (Nat.le_of_ble_eq_true rfl) ?_
  refine c_aload X 0 dX1_init_4 rfl ?_
  refine c_bipush X dX1_init_5 (by decide +kernel) ?_
  refine c_newI X (N := 12) (cells' := 1) (slots' := 12) dX1_init_7 (wmem 84 (by decide +kernel) rfl) rfl (Nat.le_of_ble_eq_true rfl) (Nat.le_of_ble_eq_true rfl) rfl rfl ⟨(Nat.le_of_ble_eq_true rfl), (Nat.le_of_ble_eq_true rfl)⟩ (fun q1 => ?_)
  refine c_putF X hin9 (fs' := [.ref q1, .null, .int (iI 0)]) (ws' := (q1, .inl (cA 0, 12, .inl (fun _ => iI 0))) :: (h, .inr (1, [.ref q1, .null, .int (iI 0)])) :: []) 1 dX1_init_9 lq_X1_11 rfl rfl rfl (Nat.lt_of_succ_le (Nat.le_of_ble_eq_true rfl)) rfl rfl ?_
  refine c_aload X 0 dX1_init_12 rfl ?_
  refine c_sipush X dX1_init_13 (by decide +kernel) ?_
  refine c_newI X (N := 516) (cells' := 2) (slots' := 528) dX1_init_16 (wmem 84 (by decide +kernel) rfl) rfl (Nat.le_of_ble_eq_true rfl) (Nat.le_of_ble_eq_true rfl) rfl rfl ⟨(Nat.le_of_ble_eq_true rfl), (Nat.le_of_ble_eq_true rfl)⟩ (fun q2 => ?_)
  refine c_putF X hin9 (fs' := [.ref q1, .ref q2, .int (iI 0)]) (ws' := (q2, .inl (cA 0, 516, .inl (fun _ => iI 0))) :: (q1, .inl (cA 0, 12, .inl (fun _ => iI 0))) :: (h, .inr (1, [.ref q1, .ref q2, .int (iI 0)])) :: []) 2 dX1_init_18 lq_X1_15 rfl rfl rfl (Nat.lt_of_succ_le (Nat.le_of_ble_eq_true rfl)) rfl rfl ?_
  refine c_aload X 0 dX1_init_21 rfl ?_
  refine c_iconst X dX1_init_22 ?_
  refine c_put X (fs' := [.ref q1, .ref q2, .int (iI 0)]) (ws' := (q2, .inl (cA 0, 516, .inl (fun _ => iI 0))) :: (q1, .inl (cA 0, 12, .inl (fun _ => iI 0))) :: (h, .inr (1, [.ref q1, .ref q2, .int (iI 0)])) :: []) 2 dX1_init_23 lq_X1_18 rfl rfl rfl (Nat.lt_of_succ_le (Nat.le_of_ble_eq_true rfl)) rfl rfl ?_
  exact c_ret X hr hlk dX1_init_26 ⟨q1, q2, rfl⟩
theorem ct_X2 (cA : Nat → ClassId) (h : Nat) : Ctr K_X2_init [.ref h] cA [(h, .inr (2, [.null, .int (iI 0)]))] (fun w1 => ∃ q1 : Nat, w1 = (q1, .inl (cA 1, 60, .inr (.inl (fun _ => lI 0)))) :: (h, .inr (2, [.ref q1, .int (iI (-1))])) :: []) := by
  refine Ctr.of rfl rfl rfl (Nat.le_of_ble_eq_true rfl) (fun p l e s m args below meth c D X0 hin9 hr hlk => ?_)
  have X : Cc p s m args c (cF _ s.heap.size) D cA RX2 cX2_init 1 := X0
  refine c_eq (ws' := (h, .inr (2, [.null, .int (iI 0)])) :: []) rfl ?_
  refine c_aload X 0 dX2_init_0 rfl ?_
  refine c_obj X dX2_init_1 (wmem 210 (by decide +kernel) rfl) (wmem 62 (by decide +kernel) rfl) (wmem 63 rfl rfl) (Nat.le_of_ble_eq_true rfl) (Nat.le_of_ble_eq_true rfl) ?_
  refine c_aload X 0 dX2_init_4 rfl ?_
  refine c_bipush X dX2_init_5 (by decide +kernel) ?_
  refine c_newL X (N := 60) (cells' := 1) (slots' := 60) dX2_init_7 (wmem 134 (by decide +kernel) rfl) rfl (Nat.le_of_ble_eq_true rfl) (Nat.le_of_ble_eq_true rfl) rfl rfl ⟨(Nat.le_of_ble_eq_true rfl), (Nat.le_of_ble_eq_true rfl)⟩ (fun q1 => ?_)
  refine c_putF X hin9 (fs' := [.ref q1, .int (iI 0)]) (ws' := (q1, .inl (cA 1, 60, .inr (.inl (fun _ => lI 0)))) :: (h, .inr (2, [.ref q1, .int (iI 0)])) :: []) 1 dX2_init_9 lq_X2_11 rfl rfl rfl (Nat.lt_of_succ_le (Nat.le_of_ble_eq_true rfl)) rfl rfl ?_
  refine c_aload X 0 dX2_init_12 rfl ?_
  refine c_iconst X dX2_init_13 ?_
  refine c_put X (fs' := [.ref q1, .int (iI (-1))]) (ws' := (q1, .inl (cA 1, 60, .inr (.inl (fun _ => lI 0)))) :: (h, .inr (2, [.ref q1, .int (iI (-1))])) :: []) 1 dX2_init_14 lq_X2_15 rfl rfl rfl (Nat.lt_of_succ_le (Nat.le_of_ble_eq_true rfl)) rfl rfl ?_
  exact c_ret X hr hlk dX2_init_17 ⟨q1, rfl⟩
theorem ct_X4 (cA : Nat → ClassId) (h : Nat) : Ctr K_X4_init [.ref h] cA [(h, .inr (4, [.null, .null]))] (fun w1 => ∃ q1 : Nat, w1 = (q1, .inl (cA 0, 43, .inl (fun _ => iI 0))) :: (h, .inr (4, [.null, .ref q1])) :: []) := by
  refine Ctr.of rfl rfl rfl (Nat.le_of_ble_eq_true rfl) (fun p l e s m args below meth c D X0 hin9 hr hlk => ?_)
  have X : Cc p s m args c (cF _ s.heap.size) D cA RX4 cX4_init 1 := X0
  refine c_eq (ws' := (h, .inr (4, [.null, .null])) :: []) rfl ?_
  refine c_aload X 0 dX4_init_0 rfl ?_
  refine c_obj X dX4_init_1 (wmem 196 (by decide +kernel) rfl) (wmem 62 (by decide +kernel) rfl) (wmem 63 rfl rfl) (Nat.le_of_ble_eq_true rfl) (Nat.le_of_ble_eq_true rfl) ?_
  refine c_aload X 0 dX4_init_4 rfl ?_
  refine c_null X dX4_init_5 ?_
  refine c_put X (fs' := [.null, .null]) (ws' := (h, .inr (4, [.null, .null])) :: []) 0 dX4_init_6 lq_X4_9 rfl rfl rfl (Nat.lt_of_succ_le (Nat.le_of_ble_eq_true rfl)) rfl rfl ?_
  refine c_aload X 0 dX4_init_9 rfl ?_
  refine c_bipush X dX4_init_10 (by decide +kernel) ?_
  refine c_newI X (N := 43) (cells' := 1) (slots' := 43) dX4_init_12 (wmem 84 (by decide +kernel) rfl) rfl (Nat.le_of_ble_eq_true rfl) (Nat.le_of_ble_eq_true rfl) rfl rfl ⟨(Nat.le_of_ble_eq_true rfl), (Nat.le_of_ble_eq_true rfl)⟩ (fun q1 => ?_)
  refine c_putF X hin9 (fs' := [.null, .ref q1]) (ws' := (q1, .inl (cA 0, 43, .inl (fun _ => iI 0))) :: (h, .inr (4, [.null, .ref q1])) :: []) 1 dX4_init_14 lq_X4_15 rfl rfl rfl (Nat.lt_of_succ_le (Nat.le_of_ble_eq_true rfl)) rfl rfl ?_
  exact c_ret X hr hlk dX4_init_17 ⟨q1, rfl⟩
theorem ct_X5 (cA : Nat → ClassId) (h : Nat) : Ctr K_X5_init [.ref h] cA [(h, .inr (5, [.null, .null, .null, .int (iI 0)]))] (fun w1 => ∃ q1 q2 q3 : Nat, w1 = (q3, .inl (cA 0, 1300, .inl (fun _ => iI 0))) :: (q2, .inl (cA 1, 1300, .inr (.inl (fun _ => lI 0)))) :: (q1, .inl (cA 1, 1300, .inr (.inl (fun _ => lI 0)))) :: (h, .inr (5, [.ref q1, .ref q2, .ref q3, .int (iI 0)])) :: []) := by
  refine Ctr.of rfl rfl rfl (Nat.le_of_ble_eq_true rfl) (fun p l e s m args below meth c D X0 hin9 hr hlk => ?_)
  have X : Cc p s m args c (cF _ s.heap.size) D cA RX5 cX5_init 1 := X0
  refine c_eq (ws' := (h, .inr (5, [.null, .null, .null, .int (iI 0)])) :: []) rfl ?_
  refine c_aload X 0 dX5_init_0 rfl ?_
  refine c_obj X dX5_init_1 (wmem 113 (by decide +kernel) rfl) (wmem 62 (by decide +kernel) rfl) (wmem 63 rfl rfl) (Nat.le_of_ble_eq_true rfl) (Nat.le_of_ble_eq_true rfl) ?_
  refine c_aload X 0 dX5_init_4 rfl ?_
  refine c_sipush X dX5_init_5 (by decide +kernel) ?_
  refine c_newL X (N := 1300) (cells' := 1) (slots' := 1300) dX5_init_8 (wmem 134 (by decide +kernel) rfl) rfl (Nat.le_of_ble_eq_true rfl) (Nat.le_of_ble_eq_true rfl) rfl rfl ⟨(Nat.le_of_ble_eq_true rfl), (Nat.le_of_ble_eq_true rfl)⟩ (fun q1 => ?_)
  refine c_putF X hin9 (fs' := [.ref q1, .null, .null, .int (iI 0)]) (ws' := (q1, .inl (cA 1, 1300, .inr (.inl (fun _ => lI 0)))) :: (h, .inr (5, [.ref q1, .null, .null, .int (iI 0)])) :: []) 1 dX5_init_10 lq_X5_9 rfl rfl rfl (Nat.lt_of_succ_le (Nat.le_of_ble_eq_true rfl)) rfl rfl ?_
  refine c_aload X 0 dX5_init_13 rfl ?_
  refine c_sipush X dX5_init_14 (by decide +kernel) ?_
  refine c_newL X (N := 1300) (cells' := 2) (slots' := 2600) dX5_init_17 (wmem 134 (by decide +kernel) rfl) rfl (Nat.le_of_ble_eq_true rfl) (Nat.le_of_ble_eq_true rfl) rfl rfl ⟨(Nat.le_of_ble_eq_true rfl), (Nat.le_of_ble_eq_true rfl)⟩ (fun q2 => ?_)
  refine c_putF X hin9 (fs' := [.ref q1, .ref q2, .null, .int (iI 0)]) (ws' := (q2, .inl (cA 1, 1300, .inr (.inl (fun _ => lI 0)))) :: (q1, .inl (cA 1, 1300, .inr (.inl (fun _ => lI 0)))) :: (h, .inr (5, [.ref q1, .ref q2, .null, .int (iI 0)])) :: []) 2 dX5_init_19 lq_X5_13 rfl rfl rfl (Nat.lt_of_succ_le (Nat.le_of_ble_eq_true rfl)) rfl rfl ?_
  refine c_aload X 0 dX5_init_22 rfl ?_
  refine c_sipush X dX5_init_23 (by decide +kernel) ?_
  refine c_newI X (N := 1300) (cells' := 3) (slots' := 3900) dX5_init_26 (wmem 84 (by decide +kernel) rfl) rfl (Nat.le_of_ble_eq_true rfl) (Nat.le_of_ble_eq_true rfl) rfl rfl ⟨(Nat.le_of_ble_eq_true rfl), (Nat.le_of_ble_eq_true rfl)⟩ (fun q3 => ?_)
  refine c_putF X hin9 (fs' := [.ref q1, .ref q2, .ref q3, .int (iI 0)]) (ws' := (q3, .inl (cA 0, 1300, .inl (fun _ => iI 0))) :: (q2, .inl (cA 1, 1300, .inr (.inl (fun _ => lI 0)))) :: (q1, .inl (cA 1, 1300, .inr (.inl (fun _ => lI 0)))) :: (h, .inr (5, [.ref q1, .ref q2, .ref q3, .int (iI 0)])) :: []) 3 dX5_init_28 lq_X5_16 rfl rfl rfl (Nat.lt_of_succ_le (Nat.le_of_ble_eq_true rfl)) rfl rfl ?_
  refine c_aload X 0 dX5_init_31 rfl ?_
  refine c_iconst X dX5_init_32 ?_
  refine c_put X (fs' := [.ref q1, .ref q2, .ref q3, .int (iI 0)]) (ws' := (q3, .inl (cA 0, 1300, .inl (fun _ => iI 0))) :: (q2, .inl (cA 1, 1300, .inr (.inl (fun _ => lI 0)))) :: (q1, .inl (cA 1, 1300, .inr (.inl (fun _ => lI 0)))) :: (h, .inr (5, [.ref q1, .ref q2, .ref q3, .int (iI 0)])) :: []) 3 dX5_init_33 lq_X5_20 rfl rfl rfl (Nat.lt_of_succ_le (Nat.le_of_ble_eq_true rfl)) rfl rfl ?_
  exact c_ret X hr hlk dX5_init_36 ⟨q1, q2, q3, rfl⟩
theorem ct_X6 (cA : Nat → ClassId) (h : Nat) : Ctr K_X6_init [.ref h] cA [(h, .inr (6, [.null, .int (iI 0)]))] (fun w1 => ∃ q1 : Nat, w1 = (q1, .inl (cA 0, 80, .inl (fun _ => iI 0))) :: (h, .inr (6, [.ref q1, .int (iI 0)])) :: []) := by
  refine Ctr.of rfl rfl rfl (Nat.le_of_ble_eq_true rfl) (fun p l e s m args below meth c D X0 hin9 hr hlk => ?_)
  have X : Cc p s m args c (cF _ s.heap.size) D cA RX6 cX6_init 1 := X0
  refine c_eq (ws' := (h, .inr (6, [.null, .int (iI 0)])) :: []) rfl ?_
  refine c_aload X 0 dX6_init_0 rfl ?_
  refine c_obj X dX6_init_1 (wmem 75 (by decide +kernel) rfl) (wmem 62 (by decide +kernel) rfl) (wmem 63 rfl rfl) (Nat.le_of_ble_eq_true rfl) (Nat.le_of_ble_eq_true rfl) ?_
  refine c_aload X 0 dX6_init_4 rfl ?_
  refine c_bipush X dX6_init_5 (by decide +kernel) ?_
  refine c_newI X (N := 80) (cells' := 1) (slots' := 80) dX6_init_7 (wmem 84 (by decide +kernel) rfl) rfl (Nat.le_of_ble_eq_true rfl) (Nat.le_of_ble_eq_true rfl) rfl rfl ⟨(Nat.le_of_ble_eq_true rfl), (Nat.le_of_ble_eq_true rfl)⟩ (fun q1 => ?_)
  refine c_putF X hin9 (fs' := [.ref q1, .int (iI 0)]) (ws' := (q1, .inl (cA 0, 80, .inl (fun _ => iI 0))) :: (h, .inr (6, [.ref q1, .int (iI 0)])) :: []) 1 dX6_init_9 lq_X6_11 rfl rfl rfl (Nat.lt_of_succ_le (Nat.le_of_ble_eq_true rfl)) rfl rfl ?_
  refine c_aload X 0 dX6_init_12 rfl ?_
  refine c_iconst X dX6_init_13 ?_
  refine c_put X (fs' := [.ref q1, .int (iI 0)]) (ws' := (q1, .inl (cA 0, 80, .inl (fun _ => iI 0))) :: (h, .inr (6, [.ref q1, .int (iI 0)])) :: []) 1 dX6_init_14 lq_X6_15 rfl rfl rfl (Nat.lt_of_succ_le (Nat.le_of_ble_eq_true rfl)) rfl rfl ?_
  exact c_ret X hr hlk dX6_init_17 ⟨q1, rfl⟩
theorem ct_X3 (cA : Nat → ClassId) (h : Nat) : Ctr K_X3_init [.ref h] cA [(h, .inr (3, [.null, .null, .null]))] (fun w1 => ∃ q1 q2 q3 q4 q5 q6 q7 q8 q9 : Nat, w1 = (q9, .inl (cA 0, 10, .inl (fun _ => iI 0))) :: (q8, .inl (cA 0, 1300, .inl (fun _ => iI 0))) :: (q7, .inl (cA 1, 1300, .inr (.inl (fun _ => lI 0)))) :: (q6, .inl (cA 1, 1300, .inr (.inl (fun _ => lI 0)))) :: (q5, .inr (5, [.ref q6, .ref q7, .ref q8, .int (iI 0)])) :: (q4, .inl (cA 0, 1300, .inl (fun _ => iI 0))) :: (q3, .inl (cA 1, 1300, .inr (.inl (fun _ => lI 0)))) :: (q2, .inl (cA 1, 1300, .inr (.inl (fun _ => lI 0)))) :: (q1, .inr (5, [.ref q2, .ref q3, .ref q4, .int (iI 0)])) :: (h, .inr (3, [.ref q1, .ref q5, .ref q9])) :: []) := by
  refine Ctr.of rfl rfl rfl (Nat.le_of_ble_eq_true rfl) (fun p l e s m args below meth c D X0 hin9 hr hlk => ?_)
  have X : Cc p s m args c (cF _ s.heap.size) D cA RX3 cX3_init 1 := X0
  refine c_eq (ws' := (h, .inr (3, [.null, .null, .null])) :: []) rfl ?_
  refine c_aload X 0 dX3_init_0 rfl ?_
  refine c_obj X dX3_init_1 (wmem 107 (by decide +kernel) rfl) (wmem 62 (by decide +kernel) rfl) (wmem 63 rfl rfl) (Nat.le_of_ble_eq_true rfl) (Nat.le_of_ble_eq_true rfl) ?_
  refine c_aload X 0 dX3_init_4 rfl ?_
  refine c_new X (ci := 5) (fs := [.null, .null, .null, .int (iI 0)]) (cells' := 1) (slots' := 4) tyX5 dX3_init_5 inX5 tyX5_ok (wmem 108 (by decide +kernel) rfl) (wmem 109 (by decide +kernel) rfl) (wmem 49 (by decide +kernel) rfl) rfl dfX5 rfl rfl ⟨(Nat.le_of_ble_eq_true rfl), (Nat.le_of_ble_eq_true rfl)⟩ (fun q1 => ?_)
  refine c_dup X dX3_init_8 ?_
  refine c_callN X (K := K_X5_init) (cells' := 4) (slots' := 3904) (ws := (h, .inr (3, [.null, .null, .null])) :: []) [] [.ref q1, .ref h] dX3_init_9 lj_X3_11 (ct_X5 cA q1) ⟨(Nat.le_of_ble_eq_true rfl), (Nat.le_of_ble_eq_true rfl)⟩ rfl (Nat.le_of_ble_eq_true rfl) rfl rfl ⟨(Nat.le_of_ble_eq_true rfl), (Nat.le_of_ble_eq_true rfl)⟩ rfl rfl (fun w1 hp => ?_)
  obtain ⟨q2, q3, q4, rfl⟩ := hp
  refine c_eq (ws' := (q4, .inl (cA 0, 1300, .inl (fun _ => iI 0))) :: (q3, .inl (cA 1, 1300, .inr (.inl (fun _ => lI 0)))) :: (q2, .inl (cA 1, 1300, .inr (.inl (fun _ => lI 0)))) :: (q1, .inr (5, [.ref q2, .ref q3, .ref q4, .int (iI 0)])) :: (h, .inr (3, [.null, .null, .null])) :: []) rfl ?_
  refine c_put X (fs' := [.ref q1, .null, .null]) (ws' := (q4, .inl (cA 0, 1300, .inl (fun _ => iI 0))) :: (q3, .inl (cA 1, 1300, .inr (.inl (fun _ => lI 0)))) :: (q2, .inl (cA 1, 1300, .inr (.inl (fun _ => lI 0)))) :: (q1, .inr (5, [.ref q2, .ref q3, .ref q4, .int (iI 0)])) :: (h, .inr (3, [.ref q1, .null, .null])) :: []) 4 dX3_init_12 lq_X3_12 rfl rfl rfl (Nat.lt_of_succ_le (Nat.le_of_ble_eq_true rfl)) rfl rfl ?_
  refine c_aload X 0 dX3_init_15 rfl ?_
  refine c_new X (ci := 5) (fs := [.null, .null, .null, .int (iI 0)]) (cells' := 5) (slots' := 3908) tyX5 dX3_init_16 inX5 tyX5_ok (wmem 108 (by decide +kernel) rfl) (wmem 109 (by decide +kernel) rfl) (wmem 49 (by decide +kernel) rfl) rfl dfX5 rfl rfl ⟨(Nat.le_of_ble_eq_true rfl), (Nat.le_of_ble_eq_true rfl)⟩ (fun q5 => ?_)
  refine c_dup X dX3_init_19 ?_
  refine c_callN X (K := K_X5_init) (cells' := 8) (slots' := 7808) (ws := (q4, .inl (cA 0, 1300, .inl (fun _ => iI 0))) :: (q3, .inl (cA 1, 1300, .inr (.inl (fun _ => lI 0)))) :: (q2, .inl (cA 1, 1300, .inr (.inl (fun _ => lI 0)))) :: (q1, .inr (5, [.ref q2, .ref q3, .ref q4, .int (iI 0)])) :: (h, .inr (3, [.ref q1, .null, .null])) :: []) [] [.ref q5, .ref h] dX3_init_20 lj_X3_11 (ct_X5 cA q5) ⟨(Nat.le_of_ble_eq_true rfl), (Nat.le_of_ble_eq_true rfl)⟩ rfl (Nat.le_of_ble_eq_true rfl) rfl rfl ⟨(Nat.le_of_ble_eq_true rfl), (Nat.le_of_ble_eq_true rfl)⟩ rfl rfl (fun w1 hp => ?_)
  obtain ⟨q6, q7, q8, rfl⟩ := hp
  refine c_eq (ws' := (q8, .inl (cA 0, 1300, .inl (fun _ => iI 0))) :: (q7, .inl (cA 1, 1300, .inr (.inl (fun _ => lI 0)))) :: (q6, .inl (cA 1, 1300, .inr (.inl (fun _ => lI 0)))) :: (q5, .inr (5, [.ref q6, .ref q7, .ref q8, .int (iI 0)])) :: (q4, .inl (cA 0, 1300, .inl (fun _ => iI 0))) :: (q3, .inl (cA 1, 1300, .inr (.inl (fun _ => lI 0)))) :: (q2, .inl (cA 1, 1300, .inr (.inl (fun _ => lI 0)))) :: (q1, .inr (5, [.ref q2, .ref q3, .ref q4, .int (iI 0)])) :: (h, .inr (3, [.ref q1, .null, .null])) :: []) rfl ?_
  refine c_put X (fs' := [.ref q1, .ref q5, .null]) (ws' := (q8, .inl (cA 0, 1300, .inl (fun _ => iI 0))) :: (q7, .inl (cA 1, 1300, .inr (.inl (fun _ => lI 0)))) :: (q6, .inl (cA 1, 1300, .inr (.inl (fun _ => lI 0)))) :: (q5, .inr (5, [.ref q6, .ref q7, .ref q8, .int (iI 0)])) :: (q4, .inl (cA 0, 1300, .inl (fun _ => iI 0))) :: (q3, .inl (cA 1, 1300, .inr (.inl (fun _ => lI 0)))) :: (q2, .inl (cA 1, 1300, .inr (.inl (fun _ => lI 0)))) :: (q1, .inr (5, [.ref q2, .ref q3, .ref q4, .int (iI 0)])) :: (h, .inr (3, [.ref q1, .ref q5, .null])) :: []) 8 dX3_init_23 lq_X3_18 rfl rfl rfl (Nat.lt_of_succ_le (Nat.le_of_ble_eq_true rfl)) rfl rfl ?_
  refine c_aload X 0 dX3_init_26 rfl ?_
  refine c_bipush X dX3_init_27 (by decide +kernel) ?_
  refine c_newI X (N := 10) (cells' := 9) (slots' := 7818) dX3_init_29 (wmem 84 (by decide +kernel) rfl) rfl (Nat.le_of_ble_eq_true rfl) (Nat.le_of_ble_eq_true rfl) rfl rfl ⟨(Nat.le_of_ble_eq_true rfl), (Nat.le_of_ble_eq_true rfl)⟩ (fun q9 => ?_)
  refine c_putF X hin9 (fs' := [.ref q1, .ref q5, .ref q9]) (ws' := (q9, .inl (cA 0, 10, .inl (fun _ => iI 0))) :: (q8, .inl (cA 0, 1300, .inl (fun _ => iI 0))) :: (q7, .inl (cA 1, 1300, .inr (.inl (fun _ => lI 0)))) :: (q6, .inl (cA 1, 1300, .inr (.inl (fun _ => lI 0)))) :: (q5, .inr (5, [.ref q6, .ref q7, .ref q8, .int (iI 0)])) :: (q4, .inl (cA 0, 1300, .inl (fun _ => iI 0))) :: (q3, .inl (cA 1, 1300, .inr (.inl (fun _ => lI 0)))) :: (q2, .inl (cA 1, 1300, .inr (.inl (fun _ => lI 0)))) :: (q1, .inr (5, [.ref q2, .ref q3, .ref q4, .int (iI 0)])) :: (h, .inr (3, [.ref q1, .ref q5, .ref q9])) :: []) 9 dX3_init_31 lq_X3_21 rfl rfl rfl (Nat.lt_of_succ_le (Nat.le_of_ble_eq_true rfl)) rfl rfl ?_
  exact c_ret X hr hlk dX3_init_34 ⟨q1, q2, q3, q4, q5, q6, q7, q8, q9, rfl⟩
