/-! by program and by hand (wip/whole/genstart.py): the law from its entry -/
set_option maxRecDepth 100000 in
theorem li_XL_9 : LkI 9 0 RL K_X7_init := ⟨⟨(wmem 58 (by decide +kernel) rfl), (wmem 45 (by decide +kernel) rfl), (wmem 60 rfl rfl), by decide, by decide, by decide +kernel⟩, (wmem 59 (by decide +kernel) rfl), rfl, rfl⟩
set_option maxRecDepth 100000 in
theorem li_XL_12 : LkI 12 0 RL K_X8_init := ⟨⟨(wmem 639 (by decide +kernel) rfl), (wmem 54 (by decide +kernel) rfl), (wmem 641 rfl rfl), by decide, by decide, by decide +kernel⟩, (wmem 640 (by decide +kernel) rfl), rfl, rfl⟩
theorem c_astore {p : Program} {l : Launch} {e : Env} {R : Room} {s : State} {m : MethodId} {args : Array Value} {below : List Frame} {meth : Method} {c : Code} {A : Nat → Prop} {D : va_G} {cA : Nat → ClassId} {cells slots : Nat} {G : State → Prop} {own : String} {cc : ByteArray} {mx pc : Nat} {lv lv' : List (Nat × Value)} {st : List Value} {ws : va_W} (X : Cc p s m args c A D cA own cc mx) {q : Fin 4} {x : Nat} (hd : decode cc pc = .ok (.astore_n q, 1)) (hn : (q : Nat) < mx) (hl : ((q : Nat), Value.ref x) :: lv.filter (fl1 q) = lv') (k : Wc p l e R s m args below meth c A D G (pc + 1) lv' st cells slots ws) : Wc p l e R s m args below meth c A D G pc lv (.ref x :: st) cells slots ws :=
  fun H locs ls hP hD hS h => lv_astore_n X.1 X.2.1 hd rfl h (by rw [X.2.2.2.2.2.2.1]; exact hn) hl (fun ls' h' => k H locs ls' hP hD hS h')
/-- the tables' array classes -/
theorem arr_prim {s : State} {args : Array Value} {ty : FieldType} (h : (Cond.arrayClass ty).before args s = true) (hty : ty = .int ∨ ty = .long ∨ ty = .boolean) : ∃ cA : ClassId, ArrOfT s cA ty ∧ va_RA s cA ty := by
  obtain ⟨cA, kA, comp, h1, h2, h3⟩ := Cond.arrayClass_spec h
  refine ⟨cA, fun n z => ⟨fun k h => (by cases h), kA, h2, comp, h3⟩, ?_⟩
  rcases hty with rfl | rfl | rfl <;> exact h1
theorem arr_over {s : State} {args : Array Value} {C : String} (h : (Cond.arrayOver (.object C)).before args s = true) : ∃ cA : ClassId, ArrOfT s cA (.object C) ∧ va_RA s cA (.object C) := by
  obtain ⟨comp, cA, kA, h1, -, h3, h4, h5⟩ := Cond.arrayOver_spec h
  exact ⟨cA, fun n z => ⟨fun k h => (by cases h), kA, h3, comp, h4⟩, kA, comp, h3, h4, h1, h5⟩
set_option maxHeartbeats 4000000 in
theorem whole_start {p : Program} {e : Env} {s : State} {m : MethodId} {below : List Frame} {meth : Method} {c : Code} (l : Launch) (hflags : l.flags = flags0) {b L : Nat} {xs : Nat → Int32} (hL : L ≤ 3072) (C0 : lw_At p s m meth c b L xs) : W p l e room_1 s m #[Value.ref b] below meth c s.heap [] 0 0 (lw_Z below #[Value.ref b] s) (entryFrame m ([Value.ref b] : List Value).toArray 4) := by
  obtain ⟨hx, hb, hr, hml, hown, hts, hX, hbl, hlocks, hgv⟩ := id C0
  obtain ⟨c0, iS0, k0⟩ := u_known (C := RX0) (T := TX0) (N := 6) (n := 6) hts (fun w hw => (List.mem_filter.mp (inX0 w hw)).1) (hts (.instantiable RX0 6) (List.mem_of_getElem? (i := 145) (by decide +kernel)))
  obtain ⟨c1, iS1, k1⟩ := u_known (C := RX1) (T := TX1) (N := 3) (n := 3) hts (fun w hw => (List.mem_filter.mp (inX1 w hw)).1) (hts (.instantiable RX1 3) (List.mem_of_getElem? (i := 86) (by decide +kernel)))
  obtain ⟨c2, iS2, k2⟩ := u_known (C := RX2) (T := TX2) (N := 2) (n := 2) hts (fun w hw => (List.mem_filter.mp (inX2 w hw)).1) (hts (.instantiable RX2 2) (List.mem_of_getElem? (i := 206) (by decide +kernel)))
  obtain ⟨c3, iS3, k3⟩ := u_known (C := RX3) (T := TX3) (N := 3) (n := 3) hts (fun w hw => (List.mem_filter.mp (inX3 w hw)).1) (hts (.instantiable RX3 3) (List.mem_of_getElem? (i := 103) (by decide +kernel)))
  obtain ⟨c4, iS4, k4⟩ := u_known (C := RX4) (T := TX4) (N := 2) (n := 2) hts (fun w hw => (List.mem_filter.mp (inX4 w hw)).1) (hts (.instantiable RX4 2) (List.mem_of_getElem? (i := 192) (by decide +kernel)))
  obtain ⟨c5, iS5, k5⟩ := u_known (C := RX5) (T := TX5) (N := 4) (n := 4) hts (fun w hw => (List.mem_filter.mp (inX5 w hw)).1) (hts (.instantiable RX5 4) (List.mem_of_getElem? (i := 109) (by decide +kernel)))
  obtain ⟨c6, iS6, k6⟩ := u_known (C := RX6) (T := TX6) (N := 2) (n := 2) hts (fun w hw => (List.mem_filter.mp (inX6 w hw)).1) (hts (.instantiable RX6 2) (List.mem_of_getElem? (i := 71) (by decide +kernel)))
  obtain ⟨c7, iS7, k7⟩ := u_known (C := RX7) (T := TX7) (N := 12) (n := 12) hts (fun w hw => (List.mem_filter.mp (inX7 w hw)).1) (hts (.instantiable RX7 12) (List.mem_of_getElem? (i := 57) (by decide +kernel)))
  obtain ⟨c8, iS8, k8⟩ := u_known (C := RX8) (T := TX8) (N := 34) (n := 34) hts (fun w hw => (List.mem_filter.mp (inX8 w hw)).1) (hts (.instantiable RX8 34) (List.mem_of_getElem? (i := 638) (by decide +kernel)))
  obtain ⟨D, hKc⟩ : ∃ D : va_G, ∀ (k : Nat) (q : vw_C), vwCl[k]? = some q → u_Kn s q.1 q.2.1 q.2.2 (D.1 k) (D.2 k) := by
    refine ⟨(fun k => [c0, c1, c2, c3, c4, c5, c6, c7, c8].getD k c0, fun k => [iS0, iS1, iS2, iS3, iS4, iS5, iS6, iS7, iS8].getD k iS0), ?_⟩
    intro k q hq
    match k, hq with
    | 0, hq => cases hq; exact k0
    | 1, hq => cases hq; exact k1
    | 2, hq => cases hq; exact k2
    | 3, hq => cases hq; exact k3
    | 4, hq => cases hq; exact k4
    | 5, hq => cases hq; exact k5
    | 6, hq => cases hq; exact k6
    | 7, hq => cases hq; exact k7
    | 8, hq => cases hq; exact k8
    | k + 9, hq => simp [vwCl] at hq
  obtain ⟨d0, a0⟩ := arr_prim (ty := .int) (hts _ (List.mem_of_getElem? (i := 84) (by decide +kernel))) (by simp)
  obtain ⟨d1, a1⟩ := arr_prim (ty := .long) (hts _ (List.mem_of_getElem? (i := 134) (by decide +kernel))) (by simp)
  obtain ⟨d2, a2⟩ := arr_prim (ty := .boolean) (hts _ (List.mem_of_getElem? (i := 755) (by decide +kernel))) (by simp)
  obtain ⟨d3, a3⟩ := arr_over (C := "SummedBases$Base") (hts _ (List.mem_of_getElem? (i := 65) (by decide +kernel)))
  obtain ⟨d4, a4⟩ := arr_over (C := "SummedBases$Reel") (hts _ (List.mem_of_getElem? (i := 67) (by decide +kernel)))
  obtain ⟨d5, a5⟩ := arr_over (C := "SummedBases$LongRow") (hts _ (List.mem_of_getElem? (i := 69) (by decide +kernel)))
  obtain ⟨cA, hKa⟩ : ∃ cA : Nat → ClassId, ∀ (k : Nat) (q : ClassId × FieldType), (tyL cA)[k]? = some q → ArrOfT s q.1 q.2 ∧ va_RA s q.1 q.2 := by
    refine ⟨fun k => [d0, d1, d2, d3, d4, d5].getD k d0, ?_⟩
    intro k q hq
    match k, hq with
    | 0, hq => cases hq; exact a0
    | 1, hq => cases hq; exact a1
    | 2, hq => cases hq; exact a2
    | 3, hq => cases hq; exact a3
    | 4, hq => cases hq; exact a4
    | 5, hq => cases hq; exact a5
    | k + 6, hq => simp [tyL] at hq
  have X : Cc p s m #[Value.ref b] c (fun q => s.heap.size ≤ q) D cA RL cL_law 4 := ⟨hx, hb, fun w hw => hts w (List.mem_filter.mp hw).1, hown, ⟨hKc, hKa⟩, fun _ h => h, hml, ⟨⟨va_Nw.of rfl (hts _ (List.mem_of_getElem? (i := 72) (by decide +kernel))), va_Nw.of rfl (hts _ (List.mem_of_getElem? (i := 87) (by decide +kernel))), va_Nw.of rfl (hts _ (List.mem_of_getElem? (i := 104) (by decide +kernel)))⟩, ⟨va_Nw.of rfl (hts _ (List.mem_of_getElem? (i := 110) (by decide +kernel))), va_Nw.of rfl (hts _ (List.mem_of_getElem? (i := 193) (by decide +kernel))), va_Nw.of rfl (hts _ (List.mem_of_getElem? (i := 207) (by decide +kernel)))⟩, ⟨va_AO.of (hts _ (List.mem_of_getElem? (i := 65) (by decide +kernel))), va_AO.of (hts _ (List.mem_of_getElem? (i := 67) (by decide +kernel))), va_AO.of (hts _ (List.mem_of_getElem? (i := 69) (by decide +kernel)))⟩, ⟨va_Nw.of rfl (hts _ (List.mem_of_getElem? (i := 270) (by decide +kernel))), va_Nw.of rfl (hts _ (List.mem_of_getElem? (i := 538) (by decide +kernel))), va_Nw.of rfl (hts _ (List.mem_of_getElem? (i := 552) (by decide +kernel)))⟩⟩⟩
  have hl := lv_entry ([.ref b]) (n := 4) (Nat.le_of_ble_eq_true rfl)
  rw [lg_entry_eq]
  generalize (lg_sl ([.ref b]) ++ List.replicate (4 - (lg_sl ([.ref b])).length) Slot.unset).toArray = ls at hl ⊢
  have hl : lv_has ls 4 [(0, .ref b)] := hl
  have go : Wc p l e room_1 s m #[Value.ref b] below meth c (fun q => s.heap.size ≤ q) D (lw_Z below #[Value.ref b] s) 0 [(0, .ref b)] [] 0 0 [] := by
    refine c_new X (ci := 7) (fs := [.null, .null, .null, .null, .null, .null, .null, .null, .int (iI 0), .null, .null, .null]) (cells' := 1) (slots' := 12) tyX7 dL_law_0 inX7 tyX7_ok (wmem 56 (by decide +kernel) rfl) (wmem 57 (by decide +kernel) rfl) (wmem 45 (by decide +kernel) rfl) rfl dfX7 rfl rfl ⟨(Nat.le_of_ble_eq_true rfl), (Nat.le_of_ble_eq_true rfl)⟩ (fun q0 => ?_)
    refine c_dup X dL_law_3 ?_
    refine c_call X (K := K_X7_init) (cells' := 72) (slots' := 9959) (ws := []) [] [.ref q0] dL_law_4 li_XL_9 (ct_X7 cA q0) ⟨(Nat.le_of_ble_eq_true rfl), (Nat.le_of_ble_eq_true rfl)⟩ rfl (Nat.le_of_ble_eq_true rfl) rfl rfl ⟨(Nat.le_of_ble_eq_true rfl), (Nat.le_of_ble_eq_true rfl)⟩ rfl rfl (fun w1 hp => ?_)
    obtain ⟨ad, T, Hh, e0, hT, rfl⟩ := hp
    refine c_eq (ws' := w72 cA ad (sg0 T)) (List.append_nil _) ?_
    refine c_astore X (lv' := [(1, .ref q0), (0, .ref b)]) dL_law_7 (by decide) rfl ?_
    refine c_new X (ci := 8) (fs := [.null, .null, .null, .null, .null, .null, .null, .null, .null, .null, .int (iI 0), .null, .null, .null, .null, .int (iI 0), .null, .null, .null, .int (iI 0), .null, .null, .null, .int (iI 0), .int (iI 0), .null, .null, .null, .null, .null, .null, .null, .null, .int (iI 0)]) (cells' := 73) (slots' := 9993) tyX8 dL_law_8 inX8 tyX8_ok (wmem 637 (by decide +kernel) rfl) (wmem 638 (by decide +kernel) rfl) (wmem 54 (by decide +kernel) rfl) rfl dfX8 rfl rfl ⟨(Nat.le_of_ble_eq_true rfl), (Nat.le_of_ble_eq_true rfl)⟩ (fun q1 => ?_)
    refine c_dup X dL_law_11 ?_
    refine c_call X (K := K_X8_init) (cells' := 101) (slots' := 126701) (ws := []) [] [.ref q1] dL_law_12 li_XL_12 (ct_X8 cA ad T Hh hT b q1) ⟨(Nat.le_of_ble_eq_true rfl), (Nat.le_of_ble_eq_true rfl)⟩ rfl (Nat.le_of_ble_eq_true rfl) rfl rfl ⟨(Nat.le_of_ble_eq_true rfl), (Nat.le_of_ble_eq_true rfl)⟩ rfl (List.append_nil _).symm (fun w1 hp => ?_)
    obtain ⟨ad1, σ, e72, e101, ha, hC, hM, rfl⟩ := hp
    refine c_eq (ws' := wl cA ad1 σ) (List.append_nil _) ?_
    refine c_astore X (lv' := [(2, .ref q1), (1, .ref q0), (0, .ref b)]) dL_law_15 (by decide) rfl ?_
    refine c_iconst X dL_law_16 ?_
    refine c_istore X (lv' := [(3, .int (iI 0)), (2, .ref q1), (1, .ref q0), (0, .ref b)]) dL_law_17 (by decide) rfl ?_
    refine c_widen (cells' := 600000) (slots' := 7302250) (Nat.le_of_ble_eq_true rfl) (Nat.le_of_ble_eq_true rfl) ?_
    have e00 : ad1 0 = q0 := (ha 0 (by decide)).trans e0
    refine c_to X (ad := ad1) (lv' := lwL 0) (st' := []) ?_ rfl (fun XC => ?_)
    · show _ = [(3, Value.int (iI 0)), (2, .ref (ad1 72)), (1, .ref (ad1 0)), (0, .ref (ad1 101))]
      rw [e72, e00, e101]
    · have Y : LwX p s m #[Value.ref b] c (fun q => s.heap.size ≤ q) D cA ad1 L xs := ⟨XC, fun q hq => by obtain ⟨i, hi, rfl⟩ := hq; exact XC.2.2.2.2.2.2.1 i hi, by rw [e101]; exact hX, by rw [e101]; exact hbl, by rw [e101]; exact Nat.not_le.mpr hbl, hL⟩
      refine law_loop Y (fun i σ1 => ?_) L 0 ab0 σ (by omega) (by omega) (by omega) wf0 hC hM
      refine g_iconst XC dL_law_1494 ?_
      intro H locs ls hP hS hl
      exact va_forget (fun q hq => hS.2.2 q hq) (lw_ret hx hb hr hlocks dL_law_1495)
  exact go s.heap [] ls (fun q hq => by simp at hq) ⟨by simp, fun q hq => by simp at hq⟩ va_S.rf (by rw [hml]; exact hl)
