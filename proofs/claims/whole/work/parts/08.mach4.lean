/-! library members, calls, answers; contracts -/
theorem cv_sum (ad : Nat → Nat) (st : List Value) : ((st.map (cv ad)).map fun v => v.category).sum = (st.map fun v => v.category).sum := by
  rw [List.map_map]
  congr 1
  apply List.map_congr_left
  intro v _
  exact cv_cat ad v
/-- copying within int arrays, within long arrays -/
def cI (σ : ASt) (a b : Nat) (sp dp n : Int) : ASt := uI σ b (fun j => if dp ≤ j ∧ j < dp + n then σ.1 a (sp + (j - dp)) else σ.1 b j)
def cL (σ : ASt) (a b : Nat) (sp dp n : Int) : ASt := uL σ b (fun j => if dp ≤ j ∧ j < dp + n then σ.2.1 a (sp + (j - dp)) else σ.2.1 b j)
def LkA (own : String) (index : Nat) : Prop := Cond.methodLink own index arraycopyName ∈ allW ∧ Cond.native arraycopyName ∈ allW ∧ Cond.static arraycopyName ∈ allW ∧ Cond.initialized "java/lang/System" ∈ allW
def LkM (own : String) (index : Nat) (y : MethodName) (b : ByteArray) (n : Nat) (ty : FieldType) : Prop := Cond.methodLink own index y ∈ allW ∧ Cond.static y ∈ allW ∧ Cond.initialized "java/lang/Math" ∈ allW ∧ Cond.code y b n (some ty) ∈ allW
section GC
variable {p : Program} {l : Launch} {e : Env} {R : Room} {s : State} {m : MethodId} {args : Array Value} {below : List Frame} {meth : Method} {c : Code} {A : Nat → Prop} {D : va_G} {cA : Nat → ClassId} {ad : Nat → Nat} {cells slots : Nat} {G : State → Prop} {own : String} {cc : ByteArray} {mx : Nat} {pc : Nat} {lv lv' : List (Nat × Value)} {st : List Value} {σ : ASt}
theorem g_mmin (X : Cx p s m args c A D cA ad own cc mx) {index : Nat} {x y : Int} (hd : decode cc pc = .ok (.invokestatic index, 3)) (hL : LkM own index Lib.Math.min.name Lib.Math.min.code 2 .int) (hfr : 1 ≤ R.frames) (hlo : (st.map fun v => v.category).sum + 13 ≤ R.locals) (hc : cells ≤ R.cells ∧ slots ≤ R.slots) (hx : i32 x) (hy : i32 y) (k : Wg p l e R s m args below meth c A D cA ad cells slots G (pc + 3) lv (.int (iI (if y < x then y else x)) :: st) σ) : Wg p l e R s m args below meth c A D cA ad cells slots G pc lv (.int (iI y) :: .int (iI x) :: st) σ := by
  intro H locs ls hP hS hl
  refine va_mmin X.1 X.2.1 hl.1.symm X.2.2.2.1 (X.2.2.1 _ hL.1) (X.2.2.1 _ hL.2.1) (X.2.2.1 _ hL.2.2.1) (X.2.2.1 _ hL.2.2.2) hfr (by rw [cv_sum]; exact hlo) hc.1 hc.2 hd ?_
  have e : (if iI y < iI x then iI y else iI x) = iI (if y < x then y else x) := by
    by_cases h : y < x
    · rw [if_pos h, if_pos ((iI_lt hy hx).mpr h)]
    · rw [if_neg h, if_neg (fun q => h ((iI_lt hy hx).mp q))]
  rw [e]
  exact k H locs ls hP hS hl
theorem g_mmax (X : Cx p s m args c A D cA ad own cc mx) {index : Nat} {x y : Int} (hd : decode cc pc = .ok (.invokestatic index, 3)) (hL : LkM own index Lib.Math.max.name Lib.Math.max.code 2 .int) (hfr : 1 ≤ R.frames) (hlo : (st.map fun v => v.category).sum + 13 ≤ R.locals) (hc : cells ≤ R.cells ∧ slots ≤ R.slots) (hx : i32 x) (hy : i32 y) (k : Wg p l e R s m args below meth c A D cA ad cells slots G (pc + 3) lv (.int (iI (if x < y then y else x)) :: st) σ) : Wg p l e R s m args below meth c A D cA ad cells slots G pc lv (.int (iI y) :: .int (iI x) :: st) σ := by
  intro H locs ls hP hS hl
  refine va_mmax X.1 X.2.1 hl.1.symm X.2.2.2.1 (X.2.2.1 _ hL.1) (X.2.2.1 _ hL.2.1) (X.2.2.1 _ hL.2.2.1) (X.2.2.1 _ hL.2.2.2) hfr (by rw [cv_sum]; exact hlo) hc.1 hc.2 hd ?_
  have e : (if iI x < iI y then iI y else iI x) = iI (if x < y then y else x) := by
    by_cases h : x < y
    · rw [if_pos h, if_pos ((iI_lt hx hy).mpr h)]
    · rw [if_neg h, if_neg (fun q => h ((iI_lt hx hy).mp q))]
  rw [e]
  exact k H locs ls hP hS hl
theorem g_copyI (X : Cx p s m args c A D cA ad own cc mx) {index a b n0 n1 x0 x1 : Nat} {sp dp n : Int} (hd : decode cc pc = .ok (.invokestatic index, 3)) (hL : LkA own index) (hfr : 1 ≤ R.frames) (hlo : (st.map fun v => v.category).sum + (nativeFrameWords "java/lang/System" "arraycopy" 5 + 11) ≤ R.locals) (ha : shp a = (1, x0, n0)) (hb : shp b = (1, x1, n1)) (h1 : 0 ≤ sp) (h2 : 0 ≤ dp) (h3 : 0 ≤ n) (h4 : sp + n ≤ (n0 : Int)) (h5 : dp + n ≤ (n1 : Int)) (k : Wg p l e R s m args below meth c A D cA ad cells slots G (pc + 3) lv st (cI σ a b sp dp n)) : Wg p l e R s m args below meth c A D cA ad cells slots G pc lv (.int (iI n) :: .int (iI dp) :: .ref b :: .int (iI sp) :: .ref a :: st) σ := by
  intro H locs ls hP hS hl
  have l0 := shp_len ha
  have l1 := shp_len hb
  dsimp only at l0 l1
  have hra := shp_lt ha (by show 1 < 9; decide)
  have hrb := shp_lt hb (by show 1 < 9; decide)
  have r1 : i32 sp := ⟨by omega, by omega⟩
  have r2 : i32 dp := ⟨by omega, by omega⟩
  have r3 : i32 n := ⟨by omega, by omega⟩
  have ng : ∀ z : Int, i32 z → 0 ≤ z → ¬ iI z < 0 := fun z hz h q => by
    have := (iI_lt hz i32z).mp q
    omega
  refine va_copyi X.1 X.2.1 hl.1.symm X.2.2.2.1 (X.2.2.1 _ hL.1) (X.2.2.1 _ hL.2.1) (X.2.2.1 _ hL.2.2.1) (X.2.2.1 _ hL.2.2.2) X.2.2.2.2.1 hP (wl_D X.2.2.2.2.2.1 X.2.2.2.2.2.2.1) hS a b 0 0 (f := fun j => iI (σ.1 a (j : Int))) (g := fun j => iI (σ.1 b (j : Int))) (by rw [wl_get cA ad σ hra, ent_1 ha]) (by rw [wl_get cA ad σ hrb, ent_1 hb]) rfl rfl rfl (ng sp r1 h1) (ng dp r2 h2) (ng n r3 h3) (by rw [iI_clamp r1, iI_clamp r3]; omega) (by rw [iI_clamp r2, iI_clamp r3]; omega) (fun _ _ => rfl) hfr (by rw [cv_sum]; exact hlo) hd (fun H1 locs1 hP1 _ hS1 => ?_)
  have e : va_cpy (fun j : Nat => iI (σ.1 a (j : Int))) (fun j : Nat => iI (σ.1 b (j : Int))) (iI sp).toNatClampNeg (iI dp).toNatClampNeg (iI n).toNatClampNeg = fun (j : Nat) => iI ((cI σ a b sp dp n).1 b (j : Int)) := by
    rw [iI_clamp r1, iI_clamp r2, iI_clamp r3]
    funext j
    unfold va_cpy cI uI
    dsimp only
    rw [if_pos rfl]
    by_cases h : dp ≤ (j : Int) ∧ (j : Int) < dp + n
    · rw [if_pos h, if_pos (by omega), show ((sp.toNat + (j - dp.toNat) : Nat) : Int) = sp + ((j : Int) - dp) by omega]
    · rw [if_neg h, if_neg (by omega)]
  rw [e, wl_set cA ad σ (cI σ a b sp dp n) hrb (by rw [ent_1 hb]) (ent_other (fun b' hb' => if_neg hb') (fun _ _ => rfl) (fun _ _ => rfl))] at hP1
  exact k H1 locs1 ls hP1 hS1 hl
theorem g_copyL (X : Cx p s m args c A D cA ad own cc mx) {index a b n0 n1 x0 x1 : Nat} {sp dp n : Int} (hd : decode cc pc = .ok (.invokestatic index, 3)) (hL : LkA own index) (hfr : 1 ≤ R.frames) (hlo : (st.map fun v => v.category).sum + (nativeFrameWords "java/lang/System" "arraycopy" 5 + 11) ≤ R.locals) (ha : shp a = (2, x0, n0)) (hb : shp b = (2, x1, n1)) (h1 : 0 ≤ sp) (h2 : 0 ≤ dp) (h3 : 0 ≤ n) (h4 : sp + n ≤ (n0 : Int)) (h5 : dp + n ≤ (n1 : Int)) (k : Wg p l e R s m args below meth c A D cA ad cells slots G (pc + 3) lv st (cL σ a b sp dp n)) : Wg p l e R s m args below meth c A D cA ad cells slots G pc lv (.int (iI n) :: .int (iI dp) :: .ref b :: .int (iI sp) :: .ref a :: st) σ := by
  intro H locs ls hP hS hl
  have l0 := shp_len ha
  have l1 := shp_len hb
  dsimp only at l0 l1
  have hra := shp_lt ha (by show 2 < 9; decide)
  have hrb := shp_lt hb (by show 2 < 9; decide)
  have r1 : i32 sp := ⟨by omega, by omega⟩
  have r2 : i32 dp := ⟨by omega, by omega⟩
  have r3 : i32 n := ⟨by omega, by omega⟩
  have ng : ∀ z : Int, i32 z → 0 ≤ z → ¬ iI z < 0 := fun z hz h q => by
    have := (iI_lt hz i32z).mp q
    omega
  refine va_copyl X.1 X.2.1 hl.1.symm X.2.2.2.1 (X.2.2.1 _ hL.1) (X.2.2.1 _ hL.2.1) (X.2.2.1 _ hL.2.2.1) (X.2.2.1 _ hL.2.2.2) X.2.2.2.2.1 hP (wl_D X.2.2.2.2.2.1 X.2.2.2.2.2.2.1) hS a b 1 1 (f := fun j => lI (σ.2.1 a (j : Int))) (g := fun j => lI (σ.2.1 b (j : Int))) (by rw [wl_get cA ad σ hra, ent_2 ha]) (by rw [wl_get cA ad σ hrb, ent_2 hb]) rfl rfl rfl (ng sp r1 h1) (ng dp r2 h2) (ng n r3 h3) (by rw [iI_clamp r1, iI_clamp r3]; omega) (by rw [iI_clamp r2, iI_clamp r3]; omega) (fun _ _ => rfl) hfr (by rw [cv_sum]; exact hlo) hd (fun H1 locs1 hP1 _ hS1 => ?_)
  have e : va_cpy (fun j : Nat => lI (σ.2.1 a (j : Int))) (fun j : Nat => lI (σ.2.1 b (j : Int))) (iI sp).toNatClampNeg (iI dp).toNatClampNeg (iI n).toNatClampNeg = fun (j : Nat) => lI ((cL σ a b sp dp n).2.1 b (j : Int)) := by
    rw [iI_clamp r1, iI_clamp r2, iI_clamp r3]
    funext j
    unfold va_cpy cL uL
    dsimp only
    rw [if_pos rfl]
    by_cases h : dp ≤ (j : Int) ∧ (j : Int) < dp + n
    · rw [if_pos h, if_pos (by omega), show ((sp.toNat + (j - dp.toNat) : Nat) : Int) = sp + ((j : Int) - dp) by omega]
    · rw [if_neg h, if_neg (by omega)]
  rw [e, wl_set cA ad σ (cL σ a b sp dp n) hrb (by rw [ent_2 hb]) (ent_other (fun _ _ => rfl) (fun b' hb' => if_neg hb') (fun _ _ => rfl))] at hP1
  exact k H1 locs1 ls hP1 hS1 hl
end GC
/-- a method's end: what it answers and the state behind it, by Q; nothing outside the world changes -/
def Qx (Q : Option Value → ASt → Prop) (D : va_G) (cA : Nat → ClassId) (ad : Nat → Nat) : Array Value → State → Outcome → State → Prop := fun _ st oc t =>
  (∃ (r : Option Value) (σ' : ASt), oc = .returned (r.map (cv ad)) ∧ Q r σ' ∧ va_P D vwCl (wl cA ad σ') t.heap) ∧ va_F (adA ad) st t
def PcS (D : va_G) (cA : Nat → ClassId) (ad : Nat → Nat) (σ : ASt) (U : State) : Prop := va_P D vwCl (wl cA ad σ) U.heap ∧ va_K D vwCl (tyL cA) U ∧ Nst U
/-- from this state, with these arguments, the method returns, and Q holds of its answer and of the state behind it -/
def Ev (K : MK) (av : List Value) (σ : ASt) (Q : Option Value → ASt → Prop) : Prop :=
  ∀ (l : Launch) (D : va_G) (cA : Nat → ClassId) (ad : Nat → Nat), adInj ad → Met l K.1 (wsK K) K.2.2.2.2 (va_Pc (av.map (cv ad)) (PcS D cA ad σ)) (Qx Q D cA ad) 0 0 (adA ad)
/-- inside method K: from this place the method returns, and Q holds -/
def Wx (K : MK) (Q : Option Value → ASt → Prop) (pc : Nat) (lv : List (Nat × Value)) (st : List Value) (σ : ASt) : Prop :=
  ∀ (p : Program) (l : Launch) (e : Env) (s : State) (m : MethodId) (args : Array Value) (below : List Frame) (meth : Method) (c : Code) (D : va_G) (cA : Nat → ClassId) (ad : Nat → Nat), Cx p s m args c (adA ad) D cA ad K.1.cls K.2.1 K.2.2.1 → meth.sig.returnType = K.2.2.2.1 → meth.locks = false →
    Wg p l e K.2.2.2.2 s m args below meth c (adA ad) D cA ad 0 0 (MQ below (Qx Q D cA ad) args s 0 0 (adA ad)) pc lv st σ
theorem lv_args_cv (ad : Nat → Nat) : ∀ (av : List Value) (i : Nat), lv_args i (av.map (cv ad)) = (lv_args i av).map (cvp ad)
  | [], _ => rfl
  | v :: vs, i => by
    show (i, cv ad v) :: lv_args (if (cv ad v).category = 2 then i + 2 else i + 1) (vs.map (cv ad)) = (i, cv ad v) :: (lv_args (if v.category = 2 then i + 2 else i + 1) vs).map (cvp ad)
    rw [cv_cat, lv_args_cv ad vs]
theorem lg_sl_cv (ad : Nat → Nat) (av : List Value) : (lg_sl (av.map (cv ad))).length = (lg_sl av).length := by
  unfold lg_sl
  induction av with
  | nil => rfl
  | cons v vs ih =>
    rw [List.map_cons, List.flatMap_cons, List.flatMap_cons, List.length_append, List.length_append, ih, cv_cat]
    by_cases h : v.category = 2
    · rw [if_pos h, if_pos h]; rfl
    · rw [if_neg h, if_neg h]; rfl
theorem Ev.of {K : MK} {av : List Value} {σ : ASt} {Q : Option Value → ASt → Prop} {lv : List (Nat × Value)} (hy : plainName K.1.cls = true) (hn : (lg_sl av).length ≤ K.2.2.1) (hlv : lv_args 0 av = lv) (k : Wx K Q 0 lv [] σ) : Ev K av σ Q := by
  intro l D cA ad hinj
  refine Met.ofW (cc := K.2.1) (maxL := K.2.2.1) (ret := K.2.2.2.1) (ws' := allW) hy rfl ?_
  intro p e s m args below meth c s₁ B hml hv
  obtain ⟨rfl, hP, hK, hN⟩ := hv
  have hts := atoms_spec (ws := wsK K) B.pre
  have hX : Cx p s m (av.map (cv ad)).toArray c (adA ad) D cA ad K.1.cls K.2.1 K.2.2.1 := ⟨B.exec, B.bytes, fun w hw => hts w (List.mem_cons_of_mem _ hw), findClass_of_methodNamed B.named, hK, hinj, fun i hi => ⟨i, hi, rfl⟩, hml, hN⟩
  have hl := lv_entry (av.map (cv ad)) (n := K.2.2.1) (by rw [lg_sl_cv]; exact hn)
  rw [lg_entry_eq]
  rw [lv_args_cv, hlv, ← hml] at hl
  rw [← hml]
  exact k p l e s m _ below meth c D cA ad hX B.returns B.notSynchronized s.heap [] _ hP va_S.rf hl
/-! links to methods -/
def LkC (index n : Nat) (own : String) (K : MK) : Prop := Cond.methodLink own index K.1 ∈ allW ∧ Cond.initialized K.1.cls ∈ allW ∧ Cond.code K.1 K.2.1 K.2.2.1 K.2.2.2.1 ∈ allW ∧ K.1.cls ≠ "java/lang/invoke/MethodHandle" ∧ K.1.cls ≠ "java/lang/invoke/VarHandle" ∧ (parseMethodDescriptor K.1.desc).map (fun d => d.parameters.length) = some n
def LkV (index n : Nat) (own : String) (K : MK) : Prop := LkC index n own K ∧ Cond.instanceMethod K.1 ∈ allW ∧ Cond.selects K.1.cls K.1 K.1 ∈ allW
def LkS (index n : Nat) (own : String) (K : MK) : Prop := LkC index n own K ∧ Cond.static K.1 ∈ allW
def LkN (index n : Nat) (own : String) (K : MK) : Prop := (∀ U, Nst U → va_Nw (.methodLinkNest own index K.1 "SummedBases") U) ∧ Cond.initialized K.1.cls ∈ allW ∧ Cond.code K.1 K.2.1 K.2.2.1 K.2.2.2.1 ∈ allW ∧ (K.1.cls ≠ "java/lang/invoke/MethodHandle" ∧ K.1.cls ≠ "java/lang/invoke/VarHandle" ∧ (parseMethodDescriptor K.1.desc).map (fun d => d.parameters.length) = some n) ∧ Cond.static K.1 ∈ allW
/-- the callee's room within the caller's -/
def RmOk (R : Room) (K : MK) : Prop := K.2.2.2.2.cells = 0 ∧ K.2.2.2.2.slots = 0 ∧ K.2.2.2.2.frames + 1 ≤ R.frames ∧ 8 + (K.2.2.1 + 11) + K.2.2.2.2.locals ≤ R.locals
theorem wsK_good {K : MK} (h : Cond.code K.1 K.2.1 K.2.2.1 K.2.2.2.1 ∈ allW) : GoodIn allW (wsK K) := by
  intro w hw
  rcases List.mem_cons.mp hw with rfl | hw
  · exact ⟨h, allW_good _ h⟩
  · exact ⟨hw, allW_good _ hw⟩
theorem PcS_blind {D : va_G} {cA : Nat → ClassId} {ad : Nat → Nat} {σ : ASt} {av : List Value} : FrameBlind (va_Pc av (PcS D cA ad σ)) := fun a U g mk q => by
  obtain ⟨h1, h2, h3, h4⟩ := q
  exact ⟨h1, h2, va_K.moved (u := U) (U := U.calling g mk a) (Vm.Alike.refl U.vm) h3, Nst.same rfl h4⟩
section GD
variable {p : Program} {l : Launch} {e : Env} {R : Room} {s : State} {m : MethodId} {args : Array Value} {below : List Frame} {meth : Method} {c : Code} {A : Nat → Prop} {D : va_G} {cA : Nat → ClassId} {ad : Nat → Nat} {cells slots : Nat} {G : State → Prop} {own : String} {cc : ByteArray} {mx : Nat} {pc : Nat} {lv lv' : List (Nat × Value)} {st : List Value} {σ : ASt}
theorem g_run {K : MK} {Q' : Option Value → ASt → Prop} {a : Array Value} {rest : List Value} {st0 : List Value} (hA : ∀ q, adA ad q → A q)
    (hrun : ∀ (H : Heap) (locs : List Loc) (ls : Array Slot), va_P D vwCl (wl cA ad σ) H → lv_has ls c.maxLocals (lv.map (cvp ad)) → va_Run p l e R s m args below meth c H locs cells slots 0 0 (F0 m pc ls (st0.map (cv ad))) (rest.map (cv ad)) (Qx Q' D cA ad a) (adA ad))
    (kk : ∀ (r : Option Value) (σ' : ASt), Q' r σ' → Wg p l e R s m args below meth c A D cA ad cells slots G (pc + 3) lv (r.toList ++ rest) σ') : Wg p l e R s m args below meth c A D cA ad cells slots G pc lv st0 σ := by
  intro H locs ls hP hS hl T hT X
  obtain ⟨v, st₀, t, T', L, h0, X', hL, e1, e2, ⟨⟨r, σ', hv, hq, hP1⟩, hz, hk⟩, stp⟩ := hrun H locs ls hP hl T hT X
  cases hv
  rw [h0] at hz hk
  rw [← e1] at hz hk hP1
  have hS1 : va_S A s.heap T'.heap (locs ++ L) := ⟨Nat.le_trans hS.1 hz, fun q h1 h2 => by rw [hk q (Nat.lt_of_lt_of_le h1 hS.1) (fun z => h2 (hA q z))]; exact hS.2.1 q h1 h2, fun q hq => by
    rcases List.mem_append.mp hq with h | h
    · exact hS.2.2 q h
    · exact hA _ (hL q h)⟩
  obtain ⟨t2, a1, b1⟩ := kk r σ' hq T'.heap (locs ++ L) ls hP1 hS1 hl T' rfl X'
  refine ⟨t2, stp t2 ?_, b1⟩
  have e3 : (r.map (cv ad)).toList ++ rest.map (cv ad) = (r.toList ++ rest).map (cv ad) := by cases r <;> simp
  show Steps p.tables e below (T'.setTop (F0 m (pc + 3) ls ((r.map (cv ad)).toList ++ rest.map (cv ad)))) t2
  rw [e3]
  exact a1
theorem g_callV (X : Cx p s m args c A D cA ad own cc mx) {K : MK} {Q' : Option Value → ASt → Prop} {index n ci id x : Nat} (As rest : List Value) (hd : decode cc pc = .ok (.invokevirtual index, 3)) (hL : LkV index n own K) (hR : RmOk R K) (hcs : cells ≤ R.cells ∧ slots ≤ R.slots) (hA : ∀ q, adA ad q → A q) (hs : shp id = (0, ci, x)) (hcl : (vwCl[ci]?).map (fun q => q.1) = some K.1.cls) (hn : As.length = n) (hst : (rest.map fun v => v.category).sum ≤ 8) (he : Ev K (.ref id :: As) σ Q')
    (kk : ∀ (r : Option Value) (σ' : ASt), Q' r σ' → Wg p l e R s m args below meth c A D cA ad cells slots G (pc + 3) lv (r.toList ++ rest) σ') : Wg p l e R s m args below meth c A D cA ad cells slots G pc lv (As.reverse ++ .ref id :: rest) σ := by
  obtain ⟨⟨hl1, hl2, hl3, hm1, hm2, hm3⟩, hi, hse⟩ := hL
  obtain ⟨hr1, hr2, hr3, hr4⟩ := hR
  refine g_run (K := K) (a := (Value.ref (ad id) :: As.map (cv ad)).toArray) hA (fun H locs ls hP hl => ?_) kk
  obtain ⟨q, hq, hqc⟩ : ∃ q, vwCl[ci]? = some q ∧ q.1 = K.1.cls := by
    cases hz : vwCl[ci]? with
    | none => rw [hz] at hcl; cases hcl
    | some q => rw [hz] at hcl; exact ⟨q, rfl, Option.some.inj hcl⟩
  have hid := shp_lt hs (by show 0 < 9; decide)
  have hrecv := va_recv (q0 := id) (ci := ci) (a := ad id) X.2.2.2.2.1 hP hq (fs := (fty ci).mapIdx (fun j t => entF ad σ id j t)) (by rw [wl_get cA ad σ hid, ent_0 hs])
  rw [hqc] at hrecv
  have hst' : List.map (cv ad) (As.reverse ++ .ref id :: rest) = (As.map (cv ad)).reverse ++ .ref (ad id) :: rest.map (cv ad) := by
    rw [List.map_append, List.map_reverse]; rfl
  rw [hst']
  exact va_runV (C := K.1.cls) (As := As.map (cv ad)) (rest := rest.map (cv ad)) (n := n) (bytes := K.2.1) (maxL := K.2.2.1) (ret := K.2.2.2.1) (nL := mx) ⟨X.1, X.2.1, X.2.2.2.2.2.2.2.1, X.2.2.2.1, X.2.2.1⟩ (he l D cA ad X.2.2.2.2.2.1)
    ⟨callB_of (ws' := allW) n X.2.2.1 (wsK_good hl3) rfl hr1 hr2 (X.2.2.1 _ hl2) (X.2.2.1 _ hl1) ⟨hm1, hm2, hm3⟩ ⟨hr3, hr4⟩, X.2.2.1 _ hi, X.2.2.1 _ hse⟩
    ⟨PcS_blind, hrecv, fun U hU hW => ⟨rfl, by rw [hU]; exact hP, va_K.moved hW.alike X.2.2.2.2.1, Nst.warm hW X.2.2.2.2.2.2.2.2⟩⟩ rfl (by rw [List.length_map]; exact hn) (hl.1.trans X.2.2.2.2.2.2.2.1) rfl (lv_room (by rw [cv_sum]; exact hst)) hd ⟨hcs.1, hcs.2⟩
theorem g_callS (X : Cx p s m args c A D cA ad own cc mx) {K : MK} {Q' : Option Value → ASt → Prop} {index n : Nat} (As rest : List Value) (hd : decode cc pc = .ok (.invokestatic index, 3)) (hL : LkS index n own K) (hR : RmOk R K) (hcs : cells ≤ R.cells ∧ slots ≤ R.slots) (hA : ∀ q, adA ad q → A q) (hn : As.length = n) (hst : (rest.map fun v => v.category).sum ≤ 8) (he : Ev K As σ Q')
    (kk : ∀ (r : Option Value) (σ' : ASt), Q' r σ' → Wg p l e R s m args below meth c A D cA ad cells slots G (pc + 3) lv (r.toList ++ rest) σ') : Wg p l e R s m args below meth c A D cA ad cells slots G pc lv (As.reverse ++ rest) σ := by
  obtain ⟨⟨hl1, hl2, hl3, hm1, hm2, hm3⟩, hstt⟩ := hL
  obtain ⟨hr1, hr2, hr3, hr4⟩ := hR
  refine g_run (K := K) (a := (As.map (cv ad)).toArray) hA (fun H locs ls hP hl => ?_) kk
  have hst' : List.map (cv ad) (As.reverse ++ rest) = (As.map (cv ad)).reverse ++ rest.map (cv ad) := by
    rw [List.map_append, List.map_reverse]
  rw [hst']
  exact va_runS (As := As.map (cv ad)) (rest := rest.map (cv ad)) (n := n) (bytes := K.2.1) (maxL := K.2.2.1) (ret := K.2.2.2.1) (nL := mx) ⟨X.1, X.2.1, X.2.2.2.2.2.2.2.1, X.2.2.2.1, X.2.2.1⟩ (he l D cA ad X.2.2.2.2.2.1)
    ⟨callB_of (ws' := allW) n X.2.2.1 (wsK_good hl3) rfl hr1 hr2 (X.2.2.1 _ hl2) (X.2.2.1 _ hl1) ⟨hm1, hm2, hm3⟩ ⟨hr3, hr4⟩, X.2.2.1 _ hstt⟩
    ⟨PcS_blind, fun U hU hW => ⟨rfl, by rw [hU]; exact hP, va_K.moved hW.alike X.2.2.2.2.1, Nst.warm hW X.2.2.2.2.2.2.2.2⟩⟩ rfl (by rw [List.length_map]; exact hn) (hl.1.trans X.2.2.2.2.2.2.2.1) rfl (lv_room (by rw [cv_sum]; exact hst)) hd ⟨hcs.1, hcs.2⟩
theorem g_callN (X : Cx p s m args c A D cA ad own cc mx) {K : MK} {Q' : Option Value → ASt → Prop} {index n : Nat} (As rest : List Value) (hd : decode cc pc = .ok (.invokestatic index, 3)) (hL : LkN index n own K) (hR : RmOk R K) (hcs : cells ≤ R.cells ∧ slots ≤ R.slots) (hA : ∀ q, adA ad q → A q) (hn : As.length = n) (hst : (rest.map fun v => v.category).sum ≤ 8) (he : Ev K As σ Q')
    (kk : ∀ (r : Option Value) (σ' : ASt), Q' r σ' → Wg p l e R s m args below meth c A D cA ad cells slots G (pc + 3) lv (r.toList ++ rest) σ') : Wg p l e R s m args below meth c A D cA ad cells slots G pc lv (As.reverse ++ rest) σ := by
  obtain ⟨hl1, hl2, hl3, hm, hstt⟩ := hL
  obtain ⟨hr1, hr2, hr3, hr4⟩ := hR
  refine g_run (K := K) (a := (As.map (cv ad)).toArray) hA (fun H locs ls hP hl => ?_) kk
  have hst' : List.map (cv ad) (As.reverse ++ rest) = (As.map (cv ad)).reverse ++ rest.map (cv ad) := by
    rw [List.map_append, List.map_reverse]
  rw [hst']
  exact va_runSN (As := As.map (cv ad)) (rest := rest.map (cv ad)) (n := n) (bytes := K.2.1) (maxL := K.2.2.1) (ret := K.2.2.2.1) (nL := mx) ⟨X.1, X.2.1, X.2.2.2.2.2.2.2.1, X.2.2.2.1, X.2.2.1⟩ (he l D cA ad X.2.2.2.2.2.1)
    ⟨va_cnB (ws' := allW) n X.2.2.1 (wsK_good hl3) rfl hr1 hr2 (hl1 s X.2.2.2.2.2.2.2.2) (X.2.2.1 _ hl2) hm ⟨hr3, hr4⟩, X.2.2.1 _ hstt, trivial⟩
    ⟨PcS_blind, fun U hU hW => ⟨rfl, by rw [hU]; exact hP, va_K.moved hW.alike X.2.2.2.2.1, Nst.warm hW X.2.2.2.2.2.2.2.2⟩⟩ rfl (by rw [List.length_map]; exact hn) (hl.1.trans X.2.2.2.2.2.2.2.1) rfl (lv_room (by rw [cv_sum]; exact hst)) hd ⟨hcs.1, hcs.2⟩
end GD
