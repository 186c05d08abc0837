/-! by program: the law's loop -/
section LP
variable {p : Program} {l : Launch} {e : Env} {s : State} {m : MethodId} {args : Array Value} {below : List Frame} {meth : Method} {c : Code} {A : Nat → Prop} {D : va_G} {cA : Nat → ClassId} {ad : Nat → Nat} {G : State → Prop} {L : Nat} {xs : Nat → Int32} {σ : ASt}
theorem law_sw (Y : LwX p s m args c A D cA ad L xs) {i : Int} (i0 : 0 ≤ i) (i6 : i + 6 ≤ L) {α : AB} (W : WF α) (C : CAll σ α) (Mm : MAll σ α) (back : ∀ α1 σ1, WF α1 → CAll σ1 α1 → MAll σ1 α1 → Wg p l e room_1 s m args below meth c A D cA ad 600000 7302250 G 1488 (lwL i) [] σ1) {x : Int} (hx : i32 x) : Wg p l e room_1 s m args below meth c A D cA ad 600000 7302250 G 33 (lwL i) [.int (iI x)] σ := by
  have X := Y.1
  by_cases c0 : x = 0
  · exact g_tswIn X (tgt := 188) 0 dL_law_33 hx (by omega) (by omega) rfl (by decide) (lawc_0 Y i0 i6 W C Mm back)
  by_cases c1 : x = 1
  · exact g_tswIn X (tgt := 231) 1 dL_law_33 hx (by omega) (by omega) rfl (by decide) (lawc_1 Y i0 i6 W C Mm back)
  by_cases c2 : x = 2
  · exact g_tswIn X (tgt := 264) 2 dL_law_33 hx (by omega) (by omega) rfl (by decide) (lawc_2 Y i0 i6 W C Mm back)
  by_cases c3 : x = 3
  · exact g_tswIn X (tgt := 308) 3 dL_law_33 hx (by omega) (by omega) rfl (by decide) (lawc_3 Y i0 i6 W C Mm back)
  by_cases c4 : x = 4
  · exact g_tswIn X (tgt := 332) 4 dL_law_33 hx (by omega) (by omega) rfl (by decide) (lawc_4 Y i0 i6 W C Mm back)
  by_cases c5 : x = 5
  · exact g_tswIn X (tgt := 365) 5 dL_law_33 hx (by omega) (by omega) rfl (by decide) (lawc_5 Y i0 i6 W C Mm back)
  by_cases c6 : x = 6
  · exact g_tswIn X (tgt := 438) 6 dL_law_33 hx (by omega) (by omega) rfl (by decide) (lawc_6 Y i0 i6 W C Mm back)
  by_cases c7 : x = 7
  · exact g_tswIn X (tgt := 461) 7 dL_law_33 hx (by omega) (by omega) rfl (by decide) (lawc_7 Y i0 i6 W C Mm back)
  by_cases c8 : x = 8
  · exact g_tswIn X (tgt := 494) 8 dL_law_33 hx (by omega) (by omega) rfl (by decide) (lawc_8 Y i0 i6 W C Mm back)
  by_cases c9 : x = 9
  · exact g_tswIn X (tgt := 527) 9 dL_law_33 hx (by omega) (by omega) rfl (by decide) (lawc_9 Y i0 i6 W C Mm back)
  by_cases c10 : x = 10
  · exact g_tswIn X (tgt := 551) 10 dL_law_33 hx (by omega) (by omega) rfl (by decide) (lawc_10 Y i0 i6 W C Mm back)
  by_cases c11 : x = 11
  · exact g_tswIn X (tgt := 594) 11 dL_law_33 hx (by omega) (by omega) rfl (by decide) (lawc_11 Y i0 i6 W C Mm back)
  by_cases c12 : x = 12
  · exact g_tswIn X (tgt := 627) 12 dL_law_33 hx (by omega) (by omega) rfl (by decide) (lawc_12 Y i0 i6 W C Mm back)
  by_cases c13 : x = 13
  · exact g_tswIn X (tgt := 660) 13 dL_law_33 hx (by omega) (by omega) rfl (by decide) (lawc_13 Y i0 i6 W C Mm back)
  by_cases c14 : x = 14
  · exact g_tswIn X (tgt := 683) 14 dL_law_33 hx (by omega) (by omega) rfl (by decide) (lawc_14 Y i0 i6 W C Mm back)
  by_cases c15 : x = 15
  · exact g_tswIn X (tgt := 706) 15 dL_law_33 hx (by omega) (by omega) rfl (by decide) (lawc_15 Y i0 i6 W C Mm back)
  by_cases c16 : x = 16
  · exact g_tswIn X (tgt := 739) 16 dL_law_33 hx (by omega) (by omega) rfl (by decide) (lawc_16 Y i0 i6 W C Mm back)
  by_cases c17 : x = 17
  · exact g_tswIn X (tgt := 772) 17 dL_law_33 hx (by omega) (by omega) rfl (by decide) (lawc_17 Y i0 i6 W C Mm back)
  by_cases c18 : x = 18
  · exact g_tswIn X (tgt := 805) 18 dL_law_33 hx (by omega) (by omega) rfl (by decide) (lawc_18 Y i0 i6 W C Mm back)
  by_cases c19 : x = 19
  · exact g_tswIn X (tgt := 858) 19 dL_law_33 hx (by omega) (by omega) rfl (by decide) (lawc_19 Y i0 i6 W C Mm back)
  by_cases c20 : x = 20
  · exact g_tswIn X (tgt := 901) 20 dL_law_33 hx (by omega) (by omega) rfl (by decide) (lawc_20 Y i0 i6 W C Mm back)
  by_cases c21 : x = 21
  · exact g_tswIn X (tgt := 985) 21 dL_law_33 hx (by omega) (by omega) rfl (by decide) (lawc_21 Y i0 i6 W C Mm back)
  by_cases c22 : x = 22
  · exact g_tswIn X (tgt := 1058) 22 dL_law_33 hx (by omega) (by omega) rfl (by decide) (lawc_22 Y i0 i6 W C Mm back)
  by_cases c23 : x = 23
  · exact g_tswIn X (tgt := 1091) 23 dL_law_33 hx (by omega) (by omega) rfl (by decide) (lawc_23 Y i0 i6 W C Mm back)
  by_cases c24 : x = 24
  · exact g_tswIn X (tgt := 1114) 24 dL_law_33 hx (by omega) (by omega) rfl (by decide) (lawc_24 Y i0 i6 W C Mm back)
  by_cases c25 : x = 25
  · exact g_tswIn X (tgt := 1147) 25 dL_law_33 hx (by omega) (by omega) rfl (by decide) (lawc_25 Y i0 i6 W C Mm back)
  by_cases c26 : x = 26
  · exact g_tswIn X (tgt := 1160) 26 dL_law_33 hx (by omega) (by omega) rfl (by decide) (lawc_26 Y i0 i6 W C Mm back)
  by_cases c27 : x = 27
  · exact g_tswIn X (tgt := 1193) 27 dL_law_33 hx (by omega) (by omega) rfl (by decide) (lawc_27 Y i0 i6 W C Mm back)
  by_cases c28 : x = 28
  · exact g_tswIn X (tgt := 1266) 28 dL_law_33 hx (by omega) (by omega) rfl (by decide) (lawc_28 Y i0 i6 W C Mm back)
  by_cases c29 : x = 29
  · exact g_tswIn X (tgt := 1300) 29 dL_law_33 hx (by omega) (by omega) rfl (by decide) (lawc_29 Y i0 i6 W C Mm back)
  by_cases c30 : x = 30
  · exact g_tswIn X (tgt := 1363) 30 dL_law_33 hx (by omega) (by omega) rfl (by decide) (lawc_30 Y i0 i6 W C Mm back)
  by_cases c31 : x = 31
  · exact g_tswIn X (tgt := 1406) 31 dL_law_33 hx (by omega) (by omega) rfl (by decide) (lawc_31 Y i0 i6 W C Mm back)
  by_cases c32 : x = 32
  · exact g_tswIn X (tgt := 1439) 32 dL_law_33 hx (by omega) (by omega) rfl (by decide) (lawc_32 Y i0 i6 W C Mm back)
  by_cases c33 : x = 33
  · exact g_tswIn X (tgt := 1452) 33 dL_law_33 hx (by omega) (by omega) rfl (by decide) (lawc_33 Y i0 i6 W C Mm back)
  by_cases c34 : x = 34
  · exact g_tswIn X (tgt := 1465) 34 dL_law_33 hx (by omega) (by omega) rfl (by decide) (lawc_34 Y i0 i6 W C Mm back)
  exact g_tswOut X (tgt := 1488) dL_law_33 hx (by omega) (by decide) (back _ _ W C Mm)
theorem law_loop (Y : LwX p s m args c A D cA ad L xs) (fin1 : ∀ i σ1, Wg p l e room_1 s m args below meth c A D cA ad 600000 7302250 G 1494 (lwL i) [] σ1) : ∀ (n : Nat) (i : Int) (α : AB) (σ : ASt), 0 ≤ i → i ≤ 3078 → (L : Int) - i ≤ n → WF α → CAll σ α → MAll σ α → Wg p l e room_1 s m args below meth c A D cA ad 600000 7302250 G 18 (lwL i) [] σ := by
  have X := Y.1
  have hL := Y.2.2.2.2.2
  intro n
  induction n with
  | zero =>
    intro i α σ i0 i1 hn W C Mm
    refine g_iload_n X 0 dL_law_18 rfl ?_
    refine g_aload_n X 3 dL_law_19 rfl ?_
    refine g_slen X Y.2.2.1 Y.2.2.2.1 Y.2.2.2.2.1 dL_law_20 ?_
    refine g_bipush X dL_law_21 (by decide +kernel) ?_
    refine g_isub X dL_law_23 ?_
    exact g_icmp_gt X (tgt := 1494) dL_law_24 (by decide) (by omega) (by omega) (fun _ => fin1 i σ) (fun q => by exfalso; omega)
  | succ n ih =>
    intro i α σ i0 i1 hn W C Mm
    refine g_iload_n X 0 dL_law_18 rfl ?_
    refine g_aload_n X 3 dL_law_19 rfl ?_
    refine g_slen X Y.2.2.1 Y.2.2.2.1 Y.2.2.2.2.1 dL_law_20 ?_
    refine g_bipush X dL_law_21 (by decide +kernel) ?_
    refine g_isub X dL_law_23 ?_
    refine g_icmp_gt X (tgt := 1494) dL_law_24 (by decide) (by omega) (by omega) (fun _ => fin1 i σ) (fun q => ?_)
    refine g_aload_n X 3 dL_law_27 rfl ?_
    refine g_iload_n X 0 dL_law_28 rfl ?_
    refine g_sld X Y.2.2.1 Y.2.2.2.1 Y.2.2.2.2.1 i0 (by omega) (by omega) dL_law_29 ?_
    rw [show xs i.toNat = iI (sc xs i) from (iI_of _).symm]
    refine g_bipush X dL_law_30 (by decide +kernel) ?_
    refine g_iand6 X dL_law_32 ?_
    refine law_sw Y i0 (by omega) W C Mm (fun α1 σ1 w1 c1 m1 => ?_) (by omega)
    refine g_iinc X (x := i) (lv' := lwL (i + 6)) 0 dL_law_1488 rfl (by decide) rfl ?_
    refine g_goto X (tgt := 18) dL_law_1491 (by decide) ?_
    exact ih (i + 6) α1 σ1 (by omega) (by omega) (by omega) w1 c1 m1
end LP
