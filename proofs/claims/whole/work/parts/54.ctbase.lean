/-! by program and by hand: Base's constructor: it tells (1, 1) -/
def oneB (tb : ASt) (kb : Nat) (b0 : Int) : Prop := BOK (stf 1 1) 1 kb ∧ CBT tb 0 (stf 1 1) 1 kb ∧ gI tb 0 0 = b0
theorem row11 : rowP 1 1 := ⟨by omega, by omega, by omega, fun k hk => by
  have : k = 0 := by omega
  subst this
  decide +kernel, by decide +kernel⟩
section CT3
variable {p : Program} {l : Launch} {e : Env} {R : Room} {s : State} {m : MethodId} {args : Array Value} {below : List Frame} {meth : Method} {c : Code} {A : Nat → Prop} {D : va_G} {cA : Nat → ClassId} {ad : Nat → Nat} {cells slots : Nat} {G : State → Prop} {own : String} {cc : ByteArray} {mx : Nat} {pc : Nat} {lv lv' : List (Nat × Value)} {st st' : List Value} {σ : ASt}
theorem c_toT (X : Cc p s m args c A D cA own cc mx) (hlv : lv = lv'.map (cvp ad)) (hst : st = st'.map (cv ad)) (k : CxT p s m args c A D cA ad own cc mx → WgT p l e R s m args below meth c A D cA ad cells slots G pc lv' st' σ) : Wc p l e R s m args below meth c A D G pc lv st cells slots (wlT cA ad σ) := by
  subst hlv; subst hst
  intro H locs ls hP hD hS hl
  refine k ⟨X.1, X.2.1, X.2.2.1, X.2.2.2.1, X.2.2.2.2.1, fun i j hi hj h => hD.to.1 i j _ _ (wl_getT cA ad σ hi) (wl_getT cA ad σ hj) h, fun i hi => hD.to.2 i _ (wl_getT cA ad σ hi), X.2.2.2.2.2.2.1, X.2.2.2.2.2.2.2.2.2.2⟩ H locs ls hP.to hS hl
theorem c_ofT (X : CxT p s m args c A D cA ad own cc mx) (k : Wc p l e R s m args below meth c A D G pc (lv.map (cvp ad)) (st.map (cv ad)) cells slots (wlT cA ad σ)) : WgT p l e R s m args below meth c A D cA ad cells slots G pc lv st σ := fun H locs ls hP hS hl => k H locs ls (cP.of hP) (cD.of (wl_DT X.2.2.2.2.2.1 X.2.2.2.2.2.2.1)) hS hl
theorem c_to (X : Cc p s m args c A D cA own cc mx) (hlv : lv = lv'.map (cvp ad)) (hst : st = st'.map (cv ad)) (k : Cx p s m args c A D cA ad own cc mx → Wg p l e R s m args below meth c A D cA ad cells slots G pc lv' st' σ) : Wc p l e R s m args below meth c A D G pc lv st cells slots (wl cA ad σ) := by
  subst hlv; subst hst
  intro H locs ls hP hD hS hl
  refine k ⟨X.1, X.2.1, X.2.2.1, X.2.2.2.1, X.2.2.2.2.1, fun i j hi hj h => hD.to.1 i j _ _ (wl_get cA ad σ hi) (wl_get cA ad σ hj) h, fun i hi => hD.to.2 i _ (wl_get cA ad σ hi), X.2.2.2.2.2.2.1, X.2.2.2.2.2.2.2.2.2.2⟩ H locs ls hP.to hS hl
theorem c_of (X : Cx p s m args c A D cA ad own cc mx) (k : Wc p l e R s m args below meth c A D G pc (lv.map (cvp ad)) (st.map (cv ad)) cells slots (wl cA ad σ)) : Wg p l e R s m args below meth c A D cA ad cells slots G pc lv st σ := fun H locs ls hP hS hl => k H locs ls (cP.of hP) (cD.of (wl_D X.2.2.2.2.2.1 X.2.2.2.2.2.2.1)) hS hl
end CT3
theorem ct_X0 (cA : Nat → ClassId) (h : Nat) (b0 : Int) : Ctr K_X0_init [.ref h, .int (iI b0)] cA [(h, .inr (0, [.int (iI 0), .null, .null, .int (iI 0), .int (iI 0), .long (lI 0)]))] (fun w1 => ∃ (q1 q2 kb : Nat) (tb : ASt), oneB tb kb b0 ∧ w1 = [(h, .inr (0, [.int (iI (tb.1 0 ((0 : Nat) : Int))), .ref q1, .ref q2, .int (iI (tb.1 0 ((3 : Nat) : Int))), .int (iI (tb.1 0 ((4 : Nat) : Int))), .long (lI (tb.2.1 0 ((5 : Nat) : Int)))])), (q1, .inl (cA 0, 43, .inl (fun j => iI (tb.1 1 (j : Int))))), (q2, .inl (cA 1, 43, .inr (.inl (fun j => lI (tb.2.1 2 (j : Int))))))]) := by
  refine Ctr.of rfl rfl rfl (Nat.le_of_ble_eq_true rfl) (fun p l e s m args below meth c D X0 hin9 hr hlk => ?_)
  have X : Cc p s m args c (cF _ s.heap.size) D cA RX0 cX0_init 2 := X0
  refine c_eq (ws' := (h, .inr (0, [.int (iI 0), .null, .null, .int (iI 0), .int (iI 0), .long (lI 0)])) :: []) rfl ?_
  refine c_aload X 0 dX0_init_0 rfl ?_
  refine c_obj X dX0_init_1 (wmem 149 (by decide +kernel) rfl) (wmem 62 (by decide +kernel) rfl) (wmem 63 rfl rfl) (Nat.le_of_ble_eq_true rfl) (Nat.le_of_ble_eq_true rfl) ?_
  refine c_aload X 0 dX0_init_4 rfl ?_
  refine c_bipush X dX0_init_5 (by decide +kernel) ?_
  refine c_newI X (N := 43) (cells' := 1) (slots' := 43) dX0_init_7 (wmem 84 (by decide +kernel) rfl) rfl (Nat.le_of_ble_eq_true rfl) (Nat.le_of_ble_eq_true rfl) rfl rfl ⟨(Nat.le_of_ble_eq_true rfl), (Nat.le_of_ble_eq_true rfl)⟩ (fun q1 => ?_)
  refine c_putF X hin9 (fs' := [.int (iI 0), .ref q1, .null, .int (iI 0), .int (iI 0), .long (lI 0)]) (ws' := (q1, .inl (cA 0, 43, .inl (fun _ => iI 0))) :: (h, .inr (0, [.int (iI 0), .ref q1, .null, .int (iI 0), .int (iI 0), .long (lI 0)])) :: []) 1 dX0_init_9 lq_X0_9 rfl rfl rfl (Nat.lt_of_succ_le (Nat.le_of_ble_eq_true rfl)) rfl rfl ?_
  refine c_aload X 0 dX0_init_12 rfl ?_
  refine c_bipush X dX0_init_13 (by decide +kernel) ?_
  refine c_newL X (N := 43) (cells' := 2) (slots' := 86) dX0_init_15 (wmem 134 (by decide +kernel) rfl) rfl (Nat.le_of_ble_eq_true rfl) (Nat.le_of_ble_eq_true rfl) rfl rfl ⟨(Nat.le_of_ble_eq_true rfl), (Nat.le_of_ble_eq_true rfl)⟩ (fun q2 => ?_)
  refine c_putF X hin9 (fs' := [.int (iI 0), .ref q1, .ref q2, .int (iI 0), .int (iI 0), .long (lI 0)]) (ws' := (q2, .inl (cA 1, 43, .inr (.inl (fun _ => lI 0)))) :: (q1, .inl (cA 0, 43, .inl (fun _ => iI 0))) :: (h, .inr (0, [.int (iI 0), .ref q1, .ref q2, .int (iI 0), .int (iI 0), .long (lI 0)])) :: []) 2 dX0_init_17 lq_X0_15 rfl rfl rfl (Nat.lt_of_succ_le (Nat.le_of_ble_eq_true rfl)) rfl rfl ?_
  refine c_aload X 0 dX0_init_20 rfl ?_
  refine c_iload X 1 dX0_init_21 rfl ?_
  refine c_putF X hin9 (fs' := [.int (iI b0), .ref q1, .ref q2, .int (iI 0), .int (iI 0), .long (lI 0)]) (ws' := (q2, .inl (cA 1, 43, .inr (.inl (fun _ => lI 0)))) :: (q1, .inl (cA 0, 43, .inl (fun _ => iI 0))) :: (h, .inr (0, [.int (iI b0), .ref q1, .ref q2, .int (iI 0), .int (iI 0), .long (lI 0)])) :: []) 2 dX0_init_22 lq_X0_19 rfl rfl rfl (Nat.lt_of_succ_le (Nat.le_of_ble_eq_true rfl)) rfl rfl ?_
  let ad : Nat → Nat := fun i => if i = 0 then h else if i = 1 then q1 else q2
  let σ : ASt := (fun a j => if a = 0 ∧ j = 0 then b0 else 0, fun _ _ => 0, fun _ _ => none)
  refine c_perm (ws' := wlT cA ad σ) (List.reverse_perm [(h, _), (q1, _), (q2, _)]) ?_
  refine c_toT X (lv' := [(0, .ref 0), (1, .int (iI b0))]) (st' := []) rfl rfl (fun XT => ?_)
  refine g_aload_nT XT 0 dX0_init_25 rfl ?_
  refine g_iconstT XT dX0_init_26 ?_
  refine g_iconstT XT dX0_init_27 ?_
  refine g_cVVT XT (K := K_X0_tell) (Q1 := fun τ => ∃ kb : Nat, oneB τ kb b0) [.int (iI 1), .int (iI 1)] [] dX0_init_28 lv_X0_23 ⟨rfl, rfl, Nat.le_of_ble_eq_true rfl, Nat.le_of_ble_eq_true rfl⟩ ⟨Nat.le_refl _, Nat.le_refl _⟩ (fun q hq => by obtain ⟨i, hi, rfl⟩ := hq; exact XT.2.2.2.2.2.2.1 i hi) rfl rfl rfl (Nat.le_of_ble_eq_true rfl) rfl (sp_tellT rfl (by omega) row11 (fun kb τ B _ C e => ⟨kb, B, C, e⟩)) (fun τ hτ => ?_)
  obtain ⟨kb, hτ⟩ := hτ
  refine c_ofT XT ?_
  exact c_ret X hr hlk dX0_init_31 ⟨q1, q2, kb, τ, hτ, rfl⟩
