/-! constructors: worlds as lists of cells, in any order; what a constructor leaves -/
def cP (D : va_G) (ws : va_W) (H : Heap) : Prop := ∀ q ∈ ws, va_at D vwCl q H
def cD (A : Nat → Prop) (ws : va_W) : Prop := (ws.map (fun q => q.1)).Nodup ∧ ∀ q ∈ ws, A q.1
theorem cP.to {D : va_G} {ws : va_W} {H : Heap} (h : cP D ws H) : va_P D vwCl ws H := fun _ q hk => h q (List.mem_of_getElem? hk)
theorem cP.of {D : va_G} {ws : va_W} {H : Heap} (h : va_P D vwCl ws H) : cP D ws H := fun q hq => by
  obtain ⟨k, hk⟩ := List.getElem?_of_mem hq
  exact h k q hk
theorem cD.to {A : Nat → Prop} {ws : va_W} (h : cD A ws) : va_D A ws := by
  refine ⟨fun i j p q hi hj hpq => ?_, fun k q hk => h.2 q (List.mem_of_getElem? hk)⟩
  have h1 : (ws.map (fun q => q.1))[i]? = some p.1 := by rw [List.getElem?_map, hi]; rfl
  have h2 : (ws.map (fun q => q.1))[j]? = some q.1 := by rw [List.getElem?_map, hj]; rfl
  have hl : i < (ws.map (fun q => q.1)).length := (List.getElem?_eq_some_iff.mp h1).1
  exact (List.getElem?_inj hl h.1).mp (by rw [h1, h2, hpq])
theorem cD.of {A : Nat → Prop} {ws : va_W} (h : va_D A ws) : cD A ws := by
  refine ⟨List.pairwise_iff_getElem.mpr (fun i j hi hj hij => ?_), fun q hq => ?_⟩
  · rw [List.length_map] at hi hj
    rw [List.getElem_map, List.getElem_map]
    intro q
    have := h.1 i j _ _ (List.getElem?_eq_getElem hi) (List.getElem?_eq_getElem hj) q
    omega
  · obtain ⟨k, hk⟩ := List.getElem?_of_mem hq
    exact h.2 k q hk
theorem cP.perm {D : va_G} {ws ws' : va_W} {H : Heap} (h : cP D ws H) (hp : ws.Perm ws') : cP D ws' H := fun q hq => h q (hp.mem_iff.mpr hq)
theorem cD.perm {A : Nat → Prop} {ws ws' : va_W} (h : cD A ws) (hp : ws.Perm ws') : cD A ws' := ⟨(hp.map _).nodup_iff.mp h.1, fun q hq => h.2 q (hp.mem_iff.mpr hq)⟩
theorem cP.tail {D : va_G} {x : Nat × va_E} {ws : va_W} {H : Heap} (h : cP D (x :: ws) H) : cP D ws H := fun q hq => h q (List.mem_cons_of_mem _ hq)
theorem cD.tail {A : Nat → Prop} {x : Nat × va_E} {ws : va_W} (h : cD A (x :: ws)) : cD A ws := ⟨(List.nodup_cons.mp h.1).2, fun q hq => h.2 q (List.mem_cons_of_mem _ hq)⟩
theorem cons_end {α : Type} (x : α) (ws : List α) : (ws ++ [x]).Perm (x :: ws) := by
  rw [show x :: ws = [x] ++ ws from rfl]
  exact List.perm_append_comm
/-- nest links of constructors, arrays of references -/
def NsC (U : State) : Prop := (va_Nw (.methodLinkNest "SummedBases" 31 ⟨"SummedBases$Tape", "<init>", "()V"⟩ "SummedBases") U ∧ va_Nw (.methodLinkNest "SummedBases" 38 ⟨"SummedBases$Deeds", "<init>", "()V"⟩ "SummedBases") U ∧ va_Nw (.methodLinkNest "SummedBases" 45 ⟨"SummedBases$Makings", "<init>", "()V"⟩ "SummedBases") U) ∧ (va_Nw (.methodLinkNest "SummedBases$Makings" 11 ⟨"SummedBases$Rests", "<init>", "()V"⟩ "SummedBases") U ∧ va_Nw (.methodLinkNest "SummedBases" 73 ⟨"SummedBases$Reel", "<init>", "()V"⟩ "SummedBases") U ∧ va_Nw (.methodLinkNest "SummedBases" 74 ⟨"SummedBases$LongRow", "<init>", "()V"⟩ "SummedBases") U) ∧ (va_AO "SummedBases$Base" U ∧ va_AO "SummedBases$Reel" U ∧ va_AO "SummedBases$LongRow" U) ∧ Nst U
theorem NsC.warm {s U : State} (hW : s.WarmedH U.vm) (h : NsC s) : NsC U := ⟨⟨va_Nw.warmM hW h.1.1, va_Nw.warmM hW h.1.2.1, va_Nw.warmM hW h.1.2.2⟩, ⟨va_Nw.warmM hW h.2.1.1, va_Nw.warmM hW h.2.1.2.1, va_Nw.warmM hW h.2.1.2.2⟩, ⟨va_AO.moved hW.alike h.2.2.1.1, va_AO.moved hW.alike h.2.2.1.2.1, va_AO.moved hW.alike h.2.2.1.2.2⟩, Nst.warm hW h.2.2.2⟩
theorem NsC.same {s U : State} (hv : s.vm = U.vm) (h : NsC s) : NsC U := by
  have ha : s.vm.Alike U.vm := by rw [hv]; exact Vm.Alike.refl _
  exact ⟨⟨va_Nw.same rfl hv h.1.1, va_Nw.same rfl hv h.1.2.1, va_Nw.same rfl hv h.1.2.2⟩, ⟨va_Nw.same rfl hv h.2.1.1, va_Nw.same rfl hv h.2.1.2.1, va_Nw.same rfl hv h.2.1.2.2⟩, ⟨va_AO.moved ha h.2.2.1.1, va_AO.moved ha h.2.2.1.2.1, va_AO.moved ha h.2.2.1.2.2⟩, Nst.same hv h.2.2.2⟩
/-- inside a constructor -/
def Cc (p : Program) (s : State) (m : MethodId) (args : Array Value) (c : Code) (A : Nat → Prop) (D : va_G) (cA : Nat → ClassId) (own : String) (cc : ByteArray) (mx : Nat) : Prop :=
  p.tables.exec = Jvm.exec ∧ c.code = cc ∧ (∀ w ∈ allW, w.before args s = true) ∧ s.vm.findClass own = some m.cls ∧ va_K D vwCl (tyL cA) s ∧ (∀ q, s.heap.size ≤ q → A q) ∧ c.maxLocals = mx ∧ NsC s
def Wc (p : Program) (l : Launch) (e : Env) (R : Room) (s : State) (m : MethodId) (args : Array Value) (below : List Frame) (meth : Method) (c : Code) (A : Nat → Prop) (D : va_G) (G : State → Prop) (pc : Nat) (lv : List (Nat × Value)) (st : List Value) (cells slots : Nat) (ws : va_W) : Prop :=
  ∀ (H : Heap) (locs : List Loc) (ls : Array Slot), cP D ws H → cD A ws → va_S A s.heap H locs → lv_has ls c.maxLocals lv → W p l e R s m args below meth c H locs cells slots G (F0 m pc ls st)
/-- which cells a constructor may change: those handed to it, and new ones -/
def cF (wc : va_W) (sz : Nat) : Nat → Prop := fun q => q ∈ wc.map (fun x => x.1) ∨ sz ≤ q
/-- a constructor's contract: the cells wc are handed to it -/
def Ctr (K : MK) (av : List Value) (cA : Nat → ClassId) (wc : va_W) (post : va_W → Prop) : Prop :=
  ∀ (l : Launch) (D : va_G) (sz : Nat), Met l K.1 (wsK K) K.2.2.2.2 (va_Pc av (fun U => U.heap.size = sz ∧ va_P D vwCl wc U.heap ∧ (wc.map (fun x => x.1)).Nodup ∧ va_K D vwCl (tyL cA) U ∧ NsC U))
    (va_Qv post (fun w1 t => va_P D vwCl w1 t.heap ∧ va_D (cF wc sz) w1) (cF wc sz)) K.2.2.2.2.cells K.2.2.2.2.slots (cF wc sz)
section CR
variable {p : Program} {l : Launch} {e : Env} {R : Room} {s : State} {m : MethodId} {args : Array Value} {below : List Frame} {meth : Method} {c : Code} {A : Nat → Prop} {D : va_G} {cA : Nat → ClassId} {cells slots cells' slots' : Nat} {G : State → Prop} {own : String} {cc : ByteArray} {mx : Nat} {pc : Nat} {lv lv' : List (Nat × Value)} {st : List Value} {ws ws' : va_W}
theorem c_perm (hp : ws.Perm ws') (k : Wc p l e R s m args below meth c A D G pc lv st cells slots ws') : Wc p l e R s m args below meth c A D G pc lv st cells slots ws := fun H locs ls hP hD hS hl => k H locs ls (hP.perm hp) (hD.perm hp) hS hl
theorem c_eq (hp : ws = ws') (k : Wc p l e R s m args below meth c A D G pc lv st cells slots ws') : Wc p l e R s m args below meth c A D G pc lv st cells slots ws := hp ▸ k
theorem c_conv (h1 : ∀ H, cP D ws H → cP D ws' H) (h2 : (ws.map (fun q => q.1)).Perm (ws'.map (fun q => q.1))) (k : Wc p l e R s m args below meth c A D G pc lv st cells slots ws') : Wc p l e R s m args below meth c A D G pc lv st cells slots ws := fun H locs ls hP hD hS hl => k H locs ls (h1 H hP) ⟨h2.nodup_iff.mp hD.1, fun q hq => by
  obtain ⟨x, hx, e⟩ := List.mem_map.mp (h2.mem_iff.mpr (List.mem_map.mpr ⟨q, hq, rfl⟩))
  rw [← e]
  exact hD.2 x hx⟩ hS hl
theorem c_widen (h1 : cells ≤ cells') (h2 : slots ≤ slots') (k : Wc p l e R s m args below meth c A D G pc lv st cells' slots' ws) : Wc p l e R s m args below meth c A D G pc lv st cells slots ws := fun H locs ls hP hD hS hl => W.widen h1 h2 (k H locs ls hP hD hS hl)
theorem c_aload (X : Cc p s m args c A D cA own cc mx) {q : Fin 4} {x : Nat} (j : Nat) (hd : decode cc pc = .ok (.aload_n q, 1)) (hk : lv[j]? = some ((q : Nat), .ref x)) (k : Wc p l e R s m args below meth c A D G (pc + 1) lv (.ref x :: st) cells slots ws) : Wc p l e R s m args below meth c A D G pc lv st cells slots ws := fun H locs ls hP hD hS hl => lv_aload_n X.1 X.2.1 hd rfl (lv_at hl j hk) (k H locs ls hP hD hS hl)
theorem c_iload (X : Cc p s m args c A D cA own cc mx) {q : Fin 4} {x : Int32} (j : Nat) (hd : decode cc pc = .ok (.iload_n q, 1)) (hk : lv[j]? = some ((q : Nat), .int x)) (k : Wc p l e R s m args below meth c A D G (pc + 1) lv (.int x :: st) cells slots ws) : Wc p l e R s m args below meth c A D G pc lv st cells slots ws := fun H locs ls hP hD hS hl => lv_iload_n X.1 X.2.1 hd rfl (lv_at hl j hk) (k H locs ls hP hD hS hl)
theorem c_iconst (X : Cc p s m args c A D cA own cc mx) {n : Int} (hd : decode cc pc = .ok (.iconst n, 1)) (k : Wc p l e R s m args below meth c A D G (pc + 1) lv (.int (iI n) :: st) cells slots ws) : Wc p l e R s m args below meth c A D G pc lv st cells slots ws := fun H locs ls hP hD hS hl => lv_iconst X.1 X.2.1 hd rfl (k H locs ls hP hD hS hl)
theorem c_bipush (X : Cc p s m args c A D cA own cc mx) {n : Int} (hd : decode cc pc = .ok (.bipush n, 2)) (hv : (Int8.ofInt n).toInt32 = iI n) (k : Wc p l e R s m args below meth c A D G (pc + 2) lv (.int (iI n) :: st) cells slots ws) : Wc p l e R s m args below meth c A D G pc lv st cells slots ws := fun H locs ls hP hD hS hl => lv_bipush X.1 X.2.1 hd hv (k H locs ls hP hD hS hl)
theorem c_sipush (X : Cc p s m args c A D cA own cc mx) {n : Int} (hd : decode cc pc = .ok (.sipush n, 3)) (hv : (Int16.ofInt n).toInt32 = iI n) (k : Wc p l e R s m args below meth c A D G (pc + 3) lv (.int (iI n) :: st) cells slots ws) : Wc p l e R s m args below meth c A D G pc lv st cells slots ws := fun H locs ls hP hD hS hl => lv_sipush X.1 X.2.1 hd hv (k H locs ls hP hD hS hl)
theorem c_null (X : Cc p s m args c A D cA own cc mx) (hd : decode cc pc = .ok (.aconst_null, 1)) (k : Wc p l e R s m args below meth c A D G (pc + 1) lv (.null :: st) cells slots ws) : Wc p l e R s m args below meth c A D G pc lv st cells slots ws := fun H locs ls hP hD hS hl => lv_null X.1 X.2.1 hd (k H locs ls hP hD hS hl)
theorem c_dup (X : Cc p s m args c A D cA own cc mx) {x : Nat} (hd : decode cc pc = .ok (.dup, 1)) (k : Wc p l e R s m args below meth c A D G (pc + 1) lv (.ref x :: .ref x :: st) cells slots ws) : Wc p l e R s m args below meth c A D G pc lv (.ref x :: st) cells slots ws := fun H locs ls hP hD hS hl => lv_dup X.1 X.2.1 hd rfl (k H locs ls hP hD hS hl)
theorem c_istore (X : Cc p s m args c A D cA own cc mx) {q : Fin 4} {x : Int32} (hd : decode cc pc = .ok (.istore_n q, 1)) (hn : (q : Nat) < mx) (hl : ((q : Nat), Value.int x) :: lv.filter (fl1 q) = lv') (k : Wc p l e R s m args below meth c A D G (pc + 1) lv' st cells slots ws) : Wc p l e R s m args below meth c A D G pc lv (.int x :: st) cells slots ws :=
  fun H locs ls hP hD hS h => lv_istore_n X.1 X.2.1 hd rfl h (by rw [X.2.2.2.2.2.2.1]; exact hn) hl (fun ls' h' => k H locs ls' hP hD hS h')
theorem c_iinc (X : Cc p s m args c A D cA own cc mx) {i : Nat} {n x y : Int} (j : Nat) (hd : decode cc pc = .ok (.iinc i n, 3)) (hk : lv[j]? = some (i, .int (iI x))) (hn : i < mx) (hy : x + n = y) (hl : (i, Value.int (iI y)) :: lv.filter (fl1 i) = lv') (k : Wc p l e R s m args below meth c A D G (pc + 3) lv' st cells slots ws) : Wc p l e R s m args below meth c A D G pc lv st cells slots ws := by
  subst hy
  exact fun H locs ls hP hD hS h => lv_iinc (k := j) X.1 X.2.1 hd h hk (iI_add x n) (by rw [X.2.2.2.2.2.2.1]; exact hn) hl (fun ls' h' => k H locs ls' hP hD hS h')
theorem c_geT (X : Cc p s m args c A D cA own cc mx) {x y : Int} {off : Int} {tgt : Nat} (hd : decode cc pc = .ok (.if_icmp .ge off, 3)) (ht : (pc : Int) + off = (tgt : Int)) (hx : i32 x) (hy : i32 y) (hc : y ≤ x) (k : Wc p l e R s m args below meth c A D G tgt lv st cells slots ws) : Wc p l e R s m args below meth c A D G pc lv (.int (iI y) :: .int (iI x) :: st) cells slots ws :=
  fun H locs ls hP hD hS hl => lv_icmp_ge X.1 X.2.1 hd ht (fun _ => k H locs ls hP hD hS hl) (fun q => absurd ((iI_le hy hx).mpr hc) q)
theorem c_geF (X : Cc p s m args c A D cA own cc mx) {x y : Int} {off : Int} {tgt : Nat} (hd : decode cc pc = .ok (.if_icmp .ge off, 3)) (ht : (pc : Int) + off = (tgt : Int)) (hx : i32 x) (hy : i32 y) (hc : x < y) (k : Wc p l e R s m args below meth c A D G (pc + 3) lv st cells slots ws) : Wc p l e R s m args below meth c A D G pc lv (.int (iI y) :: .int (iI x) :: st) cells slots ws :=
  fun H locs ls hP hD hS hl => lv_icmp_ge X.1 X.2.1 hd ht (fun q => absurd ((iI_le hy hx).mp q) (by omega)) (fun _ => k H locs ls hP hD hS hl)
theorem c_goto (X : Cc p s m args c A D cA own cc mx) {off : Int} {tgt : Nat} (hd : decode cc pc = .ok (.goto off, 3)) (ht : (pc : Int) + off = (tgt : Int)) (k : Wc p l e R s m args below meth c A D G tgt lv st cells slots ws) : Wc p l e R s m args below meth c A D G pc lv st cells slots ws :=
  fun H locs ls hP hD hS hl => lv_goto X.1 X.2.1 hd ht (k H locs ls hP hD hS hl)
theorem c_obj (X : Cc p s m args c A D cA own cc mx) {idx x : Nat} (hd : decode cc pc = .ok (.invokespecial idx, 3)) (hlk : Cond.methodLink own idx objectInit ∈ allW) (hi : Cond.instanceMethod objectInit ∈ allW) (hco : Cond.code objectInit ⟨#[0xb1]⟩ 1 none ∈ allW) (hf : 1 ≤ R.frames) (hlo : 12 ≤ R.locals) (k : Wc p l e R s m args below meth c A D G (pc + 3) lv [] cells slots ws) : Wc p l e R s m args below meth c A D G pc lv [.ref x] cells slots ws :=
  fun H locs ls hP hD hS hl => W.objInit X.1 X.2.1 X.2.2.2.1 (X.2.2.1 _ hlk) (X.2.2.1 _ hi) (X.2.2.1 _ hco) rfl hl.1 rfl hd hf hlo (k H locs ls hP hD hS hl)
theorem c_newa (X : Cc p s m args c A D cA own cc mx) {atype : ArrayType} {t : Nat} {ty : FieldType} {a0 : vp_A} {z : Int} {N : Nat} (hd : decode cc pc = .ok (.newarray atype, 2)) (ht : (tyL cA)[t]? = some (cA t, ty)) (hty : newarray.typeOf atype = ty) (hcl : Cond.arrayClass ty ∈ allW) (hne : ∀ cB U, va_RA U cB ty → U.vm.findClass ("[" ++ ty.toString) = some cB) (ha : ∀ cB : ClassId, vp_cell cB a0 = arrV cB N (fun _ => defaultValue ty)) (hz : z = N) (hN : N ≤ 60000) (hb : N * componentBytes ty ≤ 536870912) (hc : cells + 1 = cells') (hs : slots + N = slots') (hr : cells' ≤ R.cells ∧ slots' ≤ R.slots)
    (k : ∀ q, Wc p l e R s m args below meth c A D G (pc + 2) lv (.ref q :: st) cells' slots' ((q, .inl (cA t, a0)) :: ws)) : Wc p l e R s m args below meth c A D G pc lv (.int (iI z) :: st) cells slots ws := by
  subst hc; subst hs
  intro H locs ls hP hD hS hl
  have hz32 : i32 z := ⟨by omega, by omega⟩
  refine va_newa (cc := cc) (atype := atype) (n := iI z) (N' := N) (a0 := a0) X.1 X.2.1 (by rw [hty]; exact X.2.2.1 _ hcl) hty X.2.2.2.2.1 hP.to hD.to hS X.2.2.2.2.2.1 ha ?_ ?_ hb hr.1 hr.2 hd (fun q cB H1 hK1 hP1 hD1 hS1 => ?_)
  · intro q; have := (iI_lt hz32 i32z).mp q; omega
  · rw [iI_clamp hz32]; omega
  · have h1 := (hK1.2 (tyL cA).length (cB, ty) (by simp)).2
    have h2 := (X.2.2.2.2.1.2 t _ ht).2
    have e1 : cB = cA t := Option.some.inj ((hne _ _ h1).symm.trans (hne _ _ h2))
    subst e1
    exact k q H1 locs ls ((cP.of hP1).perm (cons_end _ _)) ((cD.of hD1).perm (cons_end _ _)) hS1 hl
theorem c_newI (X : Cc p s m args c A D cA own cc mx) {z : Int} {N : Nat} (hd : decode cc pc = .ok (.newarray .int, 2)) (hcl : Cond.arrayClass .int ∈ allW) (hz : z = N) (hN : N ≤ 60000) (hb : N * componentBytes .int ≤ 536870912) (hc : cells + 1 = cells') (hs : slots + N = slots') (hr : cells' ≤ R.cells ∧ slots' ≤ R.slots)
    (k : ∀ q, Wc p l e R s m args below meth c A D G (pc + 2) lv (.ref q :: st) cells' slots' ((q, .inl (cA 0, N, .inl (fun _ => iI 0))) :: ws)) : Wc p l e R s m args below meth c A D G pc lv (.int (iI z) :: st) cells slots ws :=
  c_newa X (t := 0) (a0 := (N, .inl (fun _ => iI 0))) hd rfl rfl hcl (fun _ _ h => h) (fun _ => rfl) hz hN hb hc hs hr k
theorem c_newL (X : Cc p s m args c A D cA own cc mx) {z : Int} {N : Nat} (hd : decode cc pc = .ok (.newarray .long, 2)) (hcl : Cond.arrayClass .long ∈ allW) (hz : z = N) (hN : N ≤ 60000) (hb : N * componentBytes .long ≤ 536870912) (hc : cells + 1 = cells') (hs : slots + N = slots') (hr : cells' ≤ R.cells ∧ slots' ≤ R.slots)
    (k : ∀ q, Wc p l e R s m args below meth c A D G (pc + 2) lv (.ref q :: st) cells' slots' ((q, .inl (cA 1, N, .inr (.inl (fun _ => lI 0)))) :: ws)) : Wc p l e R s m args below meth c A D G pc lv (.int (iI z) :: st) cells slots ws :=
  c_newa X (t := 1) (a0 := (N, .inr (.inl (fun _ => lI 0)))) hd rfl rfl hcl (fun _ _ h => h) (fun _ => rfl) hz hN hb hc hs hr k
theorem c_newZ (X : Cc p s m args c A D cA own cc mx) {z : Int} {N : Nat} (hd : decode cc pc = .ok (.newarray .boolean, 2)) (hcl : Cond.arrayClass .boolean ∈ allW) (hz : z = N) (hN : N ≤ 60000) (hb : N * componentBytes .boolean ≤ 536870912) (hc : cells + 1 = cells') (hs : slots + N = slots') (hr : cells' ≤ R.cells ∧ slots' ≤ R.slots)
    (k : ∀ q, Wc p l e R s m args below meth c A D G (pc + 2) lv (.ref q :: st) cells' slots' ((q, .inl (cA 2, N, .inl (fun _ => iI 0))) :: ws)) : Wc p l e R s m args below meth c A D G pc lv (.int (iI z) :: st) cells slots ws :=
  c_newa X (t := 2) (a0 := (N, .inl (fun _ => iI 0))) hd rfl rfl hcl (fun _ _ h => h) (fun _ => rfl) hz hN hb hc hs hr k
theorem c_newq (X : Cc p s m args c A D cA own cc mx) {C : String} {t index : Nat} {z : Int} {N : Nat} (hd : decode cc pc = .ok (.anewarray index, 3)) (ht : (tyL cA)[t]? = some (cA t, .object C)) (hcl : Cond.classLink own index C ∈ allW) (hov : va_AO C s) (hz : z = N) (hN : N ≤ 60000) (hc : cells + 1 = cells') (hs : slots + N = slots') (hr : cells' ≤ R.cells ∧ slots' ≤ R.slots)
    (k : ∀ q, Wc p l e R s m args below meth c A D G (pc + 3) lv (.ref q :: st) cells' slots' ((q, .inl (cA t, N, .inr (.inr (.inr (.inr (fun _ => none)))))) :: ws)) : Wc p l e R s m args below meth c A D G pc lv (.int (iI z) :: st) cells slots ws := by
  subst hc; subst hs
  intro H locs ls hP hD hS hl
  have hz32 : i32 z := ⟨by omega, by omega⟩
  refine va_newq (cc := cc) (n := iI z) (N' := N) X.1 X.2.1 X.2.2.2.1 (X.2.2.1 _ hcl) hov X.2.2.2.2.1 hP.to hD.to hS X.2.2.2.2.2.1 ?_ ?_ (by omega) hr.1 hr.2 hd (fun q cB H1 hK1 hP1 hD1 hS1 => ?_)
  · intro q; have := (iI_lt hz32 i32z).mp q; omega
  · rw [iI_clamp hz32]; omega
  · obtain ⟨_, _, _, _, _, h1⟩ := (hK1.2 (tyL cA).length (cB, .object C) (by simp)).2
    obtain ⟨_, _, _, _, _, h2⟩ := (X.2.2.2.2.1.2 t _ ht).2
    have e1 : cB = cA t := Option.some.inj (h1.symm.trans h2)
    subst e1
    exact k q H1 locs ls ((cP.of hP1).perm (cons_end _ _)) ((cD.of hD1).perm (cons_end _ _)) hS1 hl
theorem c_new (X : Cc p s m args c A D cA own cc mx) {C : String} {T : u_T} {N ci index : Nat} {fs : List Value} (ty : Nat → FieldType) (hd : decode cc pc = .ok (.new index, 3)) (hin : ∀ w ∈ u_ws C T N, w ∈ allW) (hty : ∀ k, k < N → parseFieldDescriptor (T k).2.2.1 = some (ty k)) (hcl : Cond.classLink own index C ∈ allW) (hins : Cond.instantiable C N ∈ allW) (hini : Cond.initialized C ∈ allW) (hci : vwCl[ci]? = some (C, T, N)) (hfs : ∀ j, j < N → defaultValue (ty j) = vp_V fs j) (hc : cells + 1 = cells') (hs : slots + N = slots') (hr : cells' ≤ R.cells ∧ slots' ≤ R.slots)
    (k : ∀ q, Wc p l e R s m args below meth c A D G (pc + 3) lv (.ref q :: st) cells' slots' ((q, .inr (ci, fs)) :: ws)) : Wc p l e R s m args below meth c A D G pc lv st cells slots ws := by
  subst hc; subst hs
  intro H locs ls hP hD hS hl
  exact va_new (cc := cc) X.1 X.2.1 X.2.2.1 hin ty hty X.2.2.2.1 (X.2.2.1 _ hcl) (X.2.2.1 _ hins) (X.2.2.1 _ hini) X.2.2.2.2.1 hP.to hD.to hS X.2.2.2.2.2.1 hci hfs hr.1 hr.2 hd (fun q H1 hP1 hD1 hS1 => k q H1 locs ls ((cP.of hP1).perm (cons_end _ _)) ((cD.of hD1).perm (cons_end _ _)) hS1 hl)
/-- links to fields: of the class itself -/
def LkQ (own : String) (index ci j : Nat) (fin : Bool) (ty : FieldType) : Prop := ∃ (q : vw_C) (ty0 : Nat → FieldType), vwCl[ci]? = some q ∧ j < q.2.2 ∧ Cond.fieldLink own index q.1 (q.2.1 j).2.1 (q.2.1 j).2.2.1 ∈ allW ∧ (∀ w ∈ u_ws q.1 q.2.1 q.2.2, w ∈ allW) ∧ parseFieldDescriptor (q.2.1 j).2.2.1 = some ty ∧ (∀ k, k < q.2.2 → parseFieldDescriptor (q.2.1 k).2.2.1 = some (ty0 k)) ∧ (∀ a, a < q.2.2 → ∀ b, b < q.2.2 → a ≠ b → (q.2.1 a).2.1 ≠ (q.2.1 b).2.1) ∧ (q.2.1 j).2.2.2 = fin ∧ (q.2.1 j).1 = own ∧ q.1 = own
theorem c_putF (X : Cc p s m args c A D cA own cc mx) (hin9 : meth.name = "<init>") {index ci j h : Nat} {ty : FieldType} {fs fs' : List Value} {v : Value} (q0 : Nat) (hd : decode cc pc = .ok (.putfield index, 3)) (hL : LkQ own index ci j true ty) (hw : ws[q0]? = some (h, .inr (ci, fs))) (hn : narrow ty v = v) (hfit : fits ty v = true) (hl0 : j < fs.length) (hfs : fs.set j v = fs') (hw' : ws.set q0 (h, .inr (ci, fs')) = ws') (k : Wc p l e R s m args below meth c A D G (pc + 3) lv st cells slots ws') : Wc p l e R s m args below meth c A D G pc lv (v :: .ref h :: st) cells slots ws := by
  obtain ⟨⟨C, T, N⟩, ty0, hc, hj, hlk, hin, hty, hty0, hnm, hfin, hdecl, hown⟩ := hL
  dsimp only at *
  subst hfs; subst hw'
  intro H locs ls hP hD hS hl
  exact va_putF (cc := cc) X.1 X.2.1 X.2.2.1 hin ty0 hty0 hnm X.2.2.2.1 X.2.2.2.2.1 hP.to hD.to hS q0 hw hc j hj (X.2.2.1 _ hlk) (fun x hx => by rw [hown, ← hdecl]; exact hx) hfin hin9 hdecl hty hn hfit hl0 hd (fun H1 locs1 hP1 hD1 hS1 => k H1 locs1 ls (cP.of hP1) (cD.of hD1) hS1 hl)
theorem c_put (X : Cc p s m args c A D cA own cc mx) {index ci j h : Nat} {ty : FieldType} {fs fs' : List Value} {v : Value} (q0 : Nat) (hd : decode cc pc = .ok (.putfield index, 3)) (hL : LkQ own index ci j false ty) (hw : ws[q0]? = some (h, .inr (ci, fs))) (hn : narrow ty v = v) (hfit : fits ty v = true) (hl0 : j < fs.length) (hfs : fs.set j v = fs') (hw' : ws.set q0 (h, .inr (ci, fs')) = ws') (k : Wc p l e R s m args below meth c A D G (pc + 3) lv st cells slots ws') : Wc p l e R s m args below meth c A D G pc lv (v :: .ref h :: st) cells slots ws := by
  obtain ⟨⟨C, T, N⟩, ty0, hc, hj, hlk, hin, hty, hty0, hnm, hfin, hdecl, hown⟩ := hL
  dsimp only at *
  subst hfs; subst hw'
  intro H locs ls hP hD hS hl
  exact va_put (cc := cc) X.1 X.2.1 X.2.2.1 hin ty0 hty0 hnm X.2.2.2.1 X.2.2.2.2.1 hP.to hD.to hS q0 hw hc j hj (X.2.2.1 _ hlk) (fun x hx => by rw [hown, ← hdecl]; exact hx) hfin hty hn hfit hl0 hd (fun H1 locs1 hP1 hD1 hS1 => k H1 locs1 ls (cP.of hP1) (cD.of hD1) hS1 hl)
theorem c_get (X : Cc p s m args c A D cA own cc mx) {index ci j h : Nat} {fin : Bool} {ty : FieldType} {fs : List Value} {v : Value} (q0 : Nat) (hd : decode cc pc = .ok (.getfield index, 3)) (hL : LkQ own index ci j fin ty) (hw : ws[q0]? = some (h, .inr (ci, fs))) (hv : fs[j]? = some v) (k : Wc p l e R s m args below meth c A D G (pc + 3) lv (v :: st) cells slots ws) : Wc p l e R s m args below meth c A D G pc lv (.ref h :: st) cells slots ws := by
  obtain ⟨⟨C, T, N⟩, ty0, hc, hj, hlk, hin, hty, hty0, hnm, hfin, hdecl, hown⟩ := hL
  dsimp only at *
  intro H locs ls hP hD hS hl
  exact va_get (cc := cc) X.1 X.2.1 X.2.2.1 hin X.2.2.2.1 X.2.2.2.2.1 hP.to q0 hw hc j hj (X.2.2.1 _ hlk) (fun x hx => by rw [hown, ← hdecl]; exact hx) hv hd (k H locs ls hP hD hS hl)
theorem c_ast (X : Cc p s m args c A D cA own cc mx) {a t ci v N : Nat} {C : String} {T : u_T} {M : Nat} {vs : List Value} {f : Nat → Option Nat} {i : Int} (q0 qk : Nat) (hd : decode cc pc = .ok (.aastore, 1)) (hw : ws[q0]? = some (a, .inl (cA t, N, .inr (.inr (.inr (.inr f)))))) (ht : (tyL cA)[t]? = some (cA t, .object C)) (hv : ws[qk]? = some (v, .inr (ci, vs))) (hci : vwCl[ci]? = some (C, T, M)) (h0 : 0 ≤ i) (h1 : i < N) (hN : N ≤ 60000) (hw' : ws.set q0 (a, .inl (cA t, N, .inr (.inr (.inr (.inr (va_up f i.toNat (some v))))))) = ws') (k : Wc p l e R s m args below meth c A D G (pc + 1) lv st cells slots ws') : Wc p l e R s m args below meth c A D G pc lv (.ref v :: .int (iI i) :: .ref a :: st) cells slots ws := by
  subst hw'
  intro H locs ls hP hD hS hl
  have r : i32 i := ⟨by omega, by omega⟩
  refine va_astq (cc := cc) (r := (C, T, M)) X.1 X.2.1 X.2.2.2.2.1 hP.to hD.to hS q0 t qk ci hw ht hv hci (iI_in h0 h1 r) hd (fun H1 locs1 hP1 hD1 hS1 => ?_)
  rw [iI_clamp r] at hP1 hD1
  exact k H1 locs1 ls (cP.of hP1) (cD.of hD1) hS1 hl
/-- links to constructors: plain, by a nest -/
def LkI (index n : Nat) (own : String) (K : MK) : Prop := LkC index n own K ∧ Cond.instanceMethod K.1 ∈ allW ∧ K.1.name = "<init>" ∧ K.2.2.2.1 = none
def LkJ (index n : Nat) (own : String) (K : MK) : Prop := (∀ U, NsC U → va_Nw (.methodLinkNest own index K.1 "SummedBases") U) ∧ Cond.initialized K.1.cls ∈ allW ∧ Cond.code K.1 K.2.1 K.2.2.1 K.2.2.2.1 ∈ allW ∧ (K.1.cls ≠ "java/lang/invoke/MethodHandle" ∧ K.1.cls ≠ "java/lang/invoke/VarHandle" ∧ (parseMethodDescriptor K.1.desc).map (fun d => d.parameters.length) = some n) ∧ Cond.instanceMethod K.1 ∈ allW ∧ K.1.name = "<init>" ∧ K.2.2.2.1 = none
theorem c_run {K : MK} {av rest : List Value} {wc : va_W} {post : va_W → Prop} (X : Cc p s m args c A D cA own cc mx) (st0 : List Value) (hc : cells + K.2.2.2.2.cells = cells') (hs : slots + K.2.2.2.2.slots = slots')
    (hrun : ∀ (H : Heap) (locs : List Loc) (ls : Array Slot), va_P D vwCl wc H → (wc.map (fun x => x.1)).Nodup → lv_has ls c.maxLocals lv → va_Run p l e R s m args below meth c H locs cells slots K.2.2.2.2.cells K.2.2.2.2.slots (F0 m pc ls st0) rest (va_Qv post (fun w1 t => va_P D vwCl w1 t.heap ∧ va_D (cF wc H.size) w1) (cF wc H.size) av.toArray) (cF wc H.size))
    (k : ∀ w1, post w1 → Wc p l e R s m args below meth c A D G (pc + 3) lv rest cells' slots' (w1 ++ ws)) : Wc p l e R s m args below meth c A D G pc lv st0 cells slots (wc ++ ws) := by
  subst hc; subst hs
  intro H locs ls hP hD hS hl
  have hn1 := hD.1
  rw [List.map_append] at hn1
  obtain ⟨hnc, hnw, hdis⟩ := List.nodup_append.mp hn1
  have hF : ∀ q, cF wc H.size q → A q := fun q hq => by
    rcases hq with hq | hq
    · obtain ⟨x, hx, rfl⟩ := List.mem_map.mp hq
      exact hD.2 x (List.mem_append_left _ hx)
    · exact X.2.2.2.2.2.1 q (Nat.le_trans hS.1 hq)
  refine va_callv (A1 := cF wc H.size) (free := cF wc H.size) (hrun H locs ls (cP.to (fun q hq => hP q (List.mem_append_left _ hq))) hnc hl) hS (fun q _ hq => hF q hq) hF (fun w1 t H1 locs1 ht hvm hp hB hz hk hS1 => ?_)
  obtain ⟨hP1, hD1⟩ := hB
  rw [ht] at hP1
  have hap : ∀ q ∈ ws, q.1 ∉ wc.map (fun x => x.1) ∧ q.1 < H.size := fun q hq => ⟨fun z => hdis _ z q.1 (List.mem_map.mpr ⟨q, hq, rfl⟩) rfl, (hP q (List.mem_append_right _ hq)).lt⟩
  refine k w1 hp H1 locs1 ls (fun q hq => ?_) ⟨?_, fun q hq => ?_⟩ hS1 hl
  · rcases List.mem_append.mp hq with h1 | h1
    · exact cP.of hP1 q h1
    · refine (hP q (List.mem_append_right _ h1)).kept (hk q.1 (hap q h1).2 (fun z => ?_))
      rcases z with z | z
      · exact (hap q h1).1 z
      · have := (hap q h1).2; omega
  · rw [List.map_append]
    refine List.nodup_append.mpr ⟨(cD.of hD1).1, hnw, fun a ha b hb => ?_⟩
    obtain ⟨q1, m1, rfl⟩ := List.mem_map.mp ha
    obtain ⟨q2, m2, rfl⟩ := List.mem_map.mp hb
    have f1 := (cD.of hD1).2 q1 m1
    have f2 := hap q2 m2
    intro z
    rcases f1 with f | f
    · exact f2.1 (by rw [← z]; exact f)
    · omega
  · rcases List.mem_append.mp hq with h1 | h1
    · exact hF _ ((cD.of hD1).2 q h1)
    · exact hD.2 q (List.mem_append_right _ h1)
theorem Ctr_blind {av : List Value} {wc : va_W} {sz : Nat} : FrameBlind (va_Pc av (fun U => U.heap.size = sz ∧ va_P D vwCl wc U.heap ∧ (wc.map (fun x => x.1)).Nodup ∧ va_K D vwCl (tyL cA) U ∧ NsC U)) := fun a U g mk q => by
  obtain ⟨h1, h2, h3, h3', h4, h5⟩ := q
  exact ⟨h1, h2, h3, h3', va_K.moved (u := U) (U := U.calling g mk a) (Vm.Alike.refl U.vm) h4, NsC.same rfl h5⟩
theorem c_call (X : Cc p s m args c A D cA own cc mx) {K : MK} {h index n : Nat} {wc : va_W} {post : va_W → Prop} (As rest : List Value) (hd : decode cc pc = .ok (.invokespecial index, 3)) (hL : LkI index n own K) (hct : Ctr K (.ref h :: As) cA wc post) (hR : K.2.2.2.2.frames + 1 ≤ R.frames ∧ 8 + (K.2.2.1 + 11) + K.2.2.2.2.locals ≤ R.locals) (hn : As.length = n) (hst : (rest.map fun v => v.category).sum ≤ 8) (hc : cells + K.2.2.2.2.cells = cells') (hs : slots + K.2.2.2.2.slots = slots') (hr : cells' ≤ R.cells ∧ slots' ≤ R.slots) (hk : st = As.reverse ++ .ref h :: rest) (hw : ws' = wc ++ ws)
    (k : ∀ w1, post w1 → Wc p l e R s m args below meth c A D G (pc + 3) lv rest cells' slots' (w1 ++ ws)) : Wc p l e R s m args below meth c A D G pc lv st cells slots ws' := by
  subst hk; subst hw
  obtain ⟨⟨hl1, hl2, hl3, hm1, hm2, hm3⟩, hi, hnm, hret⟩ := hL
  obtain ⟨y, bytes, maxL, ret, rm⟩ := K
  dsimp only at *
  subst hret
  refine c_run (K := (y, bytes, maxL, none, rm)) (av := .ref h :: As) X _ hc hs (fun H locs ls hP hN hl => ?_) k
  exact va_runI (As := As) (rest := rest) (n := n) (nL := mx) (rm := rm) ⟨X.1, X.2.1, X.2.2.2.2.2.2.1, X.2.2.2.1, X.2.2.1⟩ (hct l D H.size) (cwI (ws' := allW) n X.2.2.1 (wsK_good (K := (y, bytes, maxL, none, rm)) hl3) rfl rfl rfl (X.2.2.1 _ hl2) (X.2.2.1 _ hl1) (X.2.2.1 _ hi) hnm ⟨hm1, hm2, hm3⟩ hR) ⟨Ctr_blind, fun U hU hW => ⟨rfl, by rw [hU], by rw [hU]; exact hP, hN, va_K.moved hW.alike X.2.2.2.2.1, NsC.warm hW X.2.2.2.2.2.2.2⟩⟩ rfl hn (hl.1.trans X.2.2.2.2.2.2.1) rfl (lv_room hst) hd ⟨by rw [hc]; exact hr.1, by rw [hs]; exact hr.2⟩
theorem c_callN (X : Cc p s m args c A D cA own cc mx) {K : MK} {h index n : Nat} {wc : va_W} {post : va_W → Prop} (As rest : List Value) (hd : decode cc pc = .ok (.invokespecial index, 3)) (hL : LkJ index n own K) (hct : Ctr K (.ref h :: As) cA wc post) (hR : K.2.2.2.2.frames + 1 ≤ R.frames ∧ 8 + (K.2.2.1 + 11) + K.2.2.2.2.locals ≤ R.locals) (hn : As.length = n) (hst : (rest.map fun v => v.category).sum ≤ 8) (hc : cells + K.2.2.2.2.cells = cells') (hs : slots + K.2.2.2.2.slots = slots') (hr : cells' ≤ R.cells ∧ slots' ≤ R.slots) (hk : st = As.reverse ++ .ref h :: rest) (hw : ws' = wc ++ ws)
    (k : ∀ w1, post w1 → Wc p l e R s m args below meth c A D G (pc + 3) lv rest cells' slots' (w1 ++ ws)) : Wc p l e R s m args below meth c A D G pc lv st cells slots ws' := by
  subst hk; subst hw
  obtain ⟨hl1, hl2, hl3, hm, hi, hnm, hret⟩ := hL
  obtain ⟨y, bytes, maxL, ret, rm⟩ := K
  dsimp only at *
  subst hret
  refine c_run (K := (y, bytes, maxL, none, rm)) (av := .ref h :: As) X _ hc hs (fun H locs ls hP hN hl => ?_) k
  exact va_runIN (As := As) (rest := rest) (n := n) (nL := mx) (rm := rm) ⟨X.1, X.2.1, X.2.2.2.2.2.2.1, X.2.2.2.1, X.2.2.1⟩ (hct l D H.size) ⟨va_cnB (ws' := allW) n X.2.2.1 (wsK_good (K := (y, bytes, maxL, none, rm)) hl3) rfl rfl rfl (hl1 s X.2.2.2.2.2.2.2) (X.2.2.1 _ hl2) hm hR, hnm, X.2.2.1 _ hi⟩ ⟨Ctr_blind, fun U hU hW => ⟨rfl, by rw [hU], by rw [hU]; exact hP, hN, va_K.moved hW.alike X.2.2.2.2.1, NsC.warm hW X.2.2.2.2.2.2.2⟩⟩ rfl hn (hl.1.trans X.2.2.2.2.2.2.1) rfl (lv_room hst) hd ⟨by rw [hc]; exact hr.1, by rw [hs]; exact hr.2⟩
/-- a constructor's end -/
theorem c_ret {wc : va_W} {post : va_W → Prop} (X : Cc p s m args c (cF wc s.heap.size) D cA own cc mx) (hr : meth.sig.returnType = none) (hlk : meth.locks = false) (hd : decode cc pc = .ok (.return_, 1)) (hp : post ws) : Wc p l e R s m args below meth c (cF wc s.heap.size) D (MQ below (va_Qv post (fun w1 t => va_P D vwCl w1 t.heap ∧ va_D (cF wc s.heap.size) w1) (cF wc s.heap.size)) args s cells slots (cF wc s.heap.size)) pc lv [] cells slots ws :=
  fun H locs ls hP hD hS _ => W.vret X.1 X.2.1 hr (fun t ht _ => ⟨⟨ws, rfl, hp, by rw [ht]; exact hP.to, hD.to⟩, hS.F ht⟩) hS.2.2 hd hlk
end CR
theorem Ctr.of {K : MK} {av : List Value} {cA : Nat → ClassId} {wc : va_W} {post : va_W → Prop} (hy : plainName K.1.cls = true) (hnm : K.1.name = "<init>") (hret : K.2.2.2.1 = none) (hn : (lg_sl av).length ≤ K.2.2.1)
    (k : ∀ (p : Program) (l : Launch) (e : Env) (s : State) (m : MethodId) (args : Array Value) (below : List Frame) (meth : Method) (c : Code) (D : va_G), Cc p s m args c (cF wc s.heap.size) D cA K.1.cls K.2.1 K.2.2.1 → meth.name = "<init>" → meth.sig.returnType = none → meth.locks = false →
      Wc p l e K.2.2.2.2 s m args below meth c (cF wc s.heap.size) D (MQ below (va_Qv post (fun w1 t => va_P D vwCl w1 t.heap ∧ va_D (cF wc s.heap.size) w1) (cF wc s.heap.size)) args s K.2.2.2.2.cells K.2.2.2.2.slots (cF wc s.heap.size)) 0 (lv_args 0 av) [] 0 0 wc) : Ctr K av cA wc post := by
  intro l D sz
  refine Met.ofW (cc := K.2.1) (maxL := K.2.2.1) (ret := K.2.2.2.1) (ws' := allW) hy rfl ?_
  intro p e s m args below meth c s₁ B hml hv
  obtain ⟨rfl, rfl, hP, hnd, hK, hN⟩ := hv
  have hts := atoms_spec (ws := wsK K) B.pre
  have hX : Cc p s m av.toArray c (cF wc s.heap.size) D cA K.1.cls K.2.1 K.2.2.1 := ⟨B.exec, B.bytes, fun w hw => hts w (List.mem_cons_of_mem _ hw), findClass_of_methodNamed B.named, hK, fun q hq => Or.inr hq, hml, hN⟩
  have hl := lv_entry av (n := K.2.2.1) hn
  rw [lg_entry_eq]
  rw [← hml] at hl
  rw [← hml]
  exact k p l e s m av.toArray below meth c D hX (by rw [(name_of_methodNamed B.named B.method).1]; exact hnm) (by rw [B.returns]; exact hret) B.notSynchronized s.heap [] _ (cP.of hP) ⟨hnd, fun q hq => Or.inl (List.mem_map.mpr ⟨q, hq, rfl⟩)⟩ va_S.rf hl
