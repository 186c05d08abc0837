/-! the machine over states: a method's tuple (name, bytes, most variables, answer's type, room); goals over the world of a state -/
def allW : List Cond := lw_tbl.filter goodWord
theorem allW_good : ∀ w ∈ allW, (w.onTables && w.keeps) = true ∨ ∃ ty, w = .arrayClass ty := fun _ h => good_of_word (List.mem_filter.mp h).2
theorem wmem {w : Cond} (i : Nat) (h : lw_tbl[i]? = some w) (hg : goodWord w = true) : w ∈ allW := List.mem_filter.mpr ⟨List.mem_of_getElem? h, hg⟩
abbrev MK : Type := MethodName × ByteArray × Nat × Option FieldType × Room
def wsK (K : MK) : List Cond := Cond.code K.1 K.2.1 K.2.2.1 K.2.2.2.1 :: allW
/-- the three links by a nest that methods use -/
def Nst (U : State) : Prop := va_Nw (.methodLinkNest "SummedBases$Base" 27 ⟨"SummedBases", "isWithin", "(III)Z"⟩ "SummedBases") U ∧ va_Nw (.methodLinkNest "SummedBases$Tape" 29 ⟨"SummedBases", "isWithin", "(III)Z"⟩ "SummedBases") U ∧ va_Nw (.methodLinkNest "SummedBases$Deeds" 41 ⟨"SummedBases", "isWithin", "(III)Z"⟩ "SummedBases") U
theorem Nst.warm {s U : State} (hW : s.WarmedH U.vm) (h : Nst s) : Nst U := ⟨va_Nw.warmM hW h.1, va_Nw.warmM hW h.2.1, va_Nw.warmM hW h.2.2⟩
theorem Nst.same {s U : State} (hv : s.vm = U.vm) (h : Nst s) : Nst U := ⟨va_Nw.same rfl hv h.1, va_Nw.same rfl hv h.2.1, va_Nw.same rfl hv h.2.2⟩
/-- what holds inside a method: machine, code, words, class, tables; the world's addresses are apart, and may be written -/
def Cx (p : Program) (s : State) (m : MethodId) (args : Array Value) (c : Code) (A : Nat → Prop) (D : va_G) (cA : Nat → ClassId) (ad : Nat → Nat) (own : String) (cc : ByteArray) (mx : Nat) : Prop :=
  p.tables.exec = Jvm.exec ∧ c.code = cc ∧ (∀ w ∈ allW, w.before args s = true) ∧ s.vm.findClass own = some m.cls ∧ va_K D vwCl (tyL cA) s ∧ adInj ad ∧ (∀ i, i < NN → A (ad i)) ∧ c.maxLocals = mx ∧ Nst s
/-- from this place, with these variables and this stack, at this state, the machine comes to G -/
def Wg (p : Program) (l : Launch) (e : Env) (R : Room) (s : State) (m : MethodId) (args : Array Value) (below : List Frame) (meth : Method) (c : Code) (A : Nat → Prop) (D : va_G) (cA : Nat → ClassId) (ad : Nat → Nat) (cells slots : Nat) (G : State → Prop) (pc : Nat) (lv : List (Nat × Value)) (st : List Value) (σ : ASt) : Prop :=
  ∀ (H : Heap) (locs : List Loc) (ls : Array Slot), va_P D vwCl (wl cA ad σ) H → va_S A s.heap H locs → lv_has ls c.maxLocals (lv.map (cvp ad)) → W p l e R s m args below meth c H locs cells slots G (F0 m pc ls (st.map (cv ad)))
theorem lvm_at {ad : Nat → Nat} {ls : Array Slot} {n : Nat} {lv : List (Nat × Value)} (h : lv_has ls n (lv.map (cvp ad))) (k : Nat) {i : Nat} {v : Value} (hk : lv[k]? = some (i, v)) : ls[i]? = some (.val (cv ad v)) := lv_at h k (by rw [List.getElem?_map, hk]; rfl)
def fl1 (i : Nat) (q : Nat × Value) : Bool := !(q.1 == i) && !(q.1 + 1 == i && q.2.category == 2)
def fl2 (i : Nat) (q : Nat × Value) : Bool := !(q.1 == i) && (!(q.1 == i + 1) && !(q.1 + 1 == i && q.2.category == 2))
theorem lvm_f1 {ad : Nat → Nat} {lv lv' : List (Nat × Value)} {i : Nat} {v : Value} (h : (i, v) :: lv.filter (fl1 i) = lv') : (i, cv ad v) :: (lv.map (cvp ad)).filter (fun q => !(q.1 == i) && !(q.1 + 1 == i && q.2.category == 2)) = lv'.map (cvp ad) := by
  subst h
  rw [List.filter_map, List.map_cons]
  congr 2
  apply List.filter_congr
  intro q _
  show (!(q.1 == i) && !(q.1 + 1 == i && (cv ad q.2).category == 2)) = _
  rw [cv_cat]
  rfl
theorem lvm_f2 {ad : Nat → Nat} {lv lv' : List (Nat × Value)} {i : Nat} {v : Value} (h : (i, v) :: lv.filter (fl2 i) = lv') : (i, cv ad v) :: (lv.map (cvp ad)).filter (fun q => !(q.1 == i) && (!(q.1 == i + 1) && !(q.1 + 1 == i && q.2.category == 2))) = lv'.map (cvp ad) := by
  subst h
  rw [List.filter_map, List.map_cons]
  congr 2
  apply List.filter_congr
  intro q _
  show (!(q.1 == i) && (!(q.1 == i + 1) && !(q.1 + 1 == i && (cv ad q.2).category == 2))) = _
  rw [cv_cat]
  rfl
section GR
variable {p : Program} {l : Launch} {e : Env} {R : Room} {s : State} {m : MethodId} {args : Array Value} {below : List Frame} {meth : Method} {c : Code} {A : Nat → Prop} {D : va_G} {cA : Nat → ClassId} {ad : Nat → Nat} {cells slots : Nat} {G : State → Prop} {own : String} {cc : ByteArray} {mx : Nat} {pc : Nat} {lv lv' : List (Nat × Value)} {st : List Value} {σ : ASt}
theorem g_sub (ks : List Nat) (h : lv_pick lv ks = lv') (k : Wg p l e R s m args below meth c A D cA ad cells slots G pc lv' st σ) : Wg p l e R s m args below meth c A D cA ad cells slots G pc lv st σ := fun H locs ls hP hS hl => k H locs ls hP hS (lv_sub hl ks (by
  subst h
  unfold lv_pick
  rw [List.map_filterMap]
  congr 1
  funext i
  rw [List.getElem?_map]))
theorem g_iconst (X : Cx p s m args c A D cA ad own cc mx) {n : Int} (hd : decode cc pc = .ok (.iconst n, 1)) (k : Wg p l e R s m args below meth c A D cA ad cells slots G (pc + 1) lv (.int (iI n) :: st) σ) : Wg p l e R s m args below meth c A D cA ad cells slots G pc lv st σ :=
  fun H locs ls hP hS hl => lv_iconst X.1 X.2.1 hd rfl (k H locs ls hP hS hl)
theorem g_bipush (X : Cx p s m args c A D cA ad own cc mx) {n : Int} (hd : decode cc pc = .ok (.bipush n, 2)) (hv : (Int8.ofInt n).toInt32 = iI n) (k : Wg p l e R s m args below meth c A D cA ad cells slots G (pc + 2) lv (.int (iI n) :: st) σ) : Wg p l e R s m args below meth c A D cA ad cells slots G pc lv st σ :=
  fun H locs ls hP hS hl => lv_bipush X.1 X.2.1 hd hv (k H locs ls hP hS hl)
theorem g_sipush (X : Cx p s m args c A D cA ad own cc mx) {n : Int} (hd : decode cc pc = .ok (.sipush n, 3)) (hv : (Int16.ofInt n).toInt32 = iI n) (k : Wg p l e R s m args below meth c A D cA ad cells slots G (pc + 3) lv (.int (iI n) :: st) σ) : Wg p l e R s m args below meth c A D cA ad cells slots G pc lv st σ :=
  fun H locs ls hP hS hl => lv_sipush X.1 X.2.1 hd hv (k H locs ls hP hS hl)
theorem g_lconst (X : Cx p s m args c A D cA ad own cc mx) {n : Fin 2} {z : Int} (hd : decode cc pc = .ok (.lconst n, 1)) (hv : Int64.ofNat (n : Nat) = lI z) (k : Wg p l e R s m args below meth c A D cA ad cells slots G (pc + 1) lv (.long (lI z) :: st) σ) : Wg p l e R s m args below meth c A D cA ad cells slots G pc lv st σ :=
  fun H locs ls hP hS hl => lv_lconst X.1 X.2.1 hd hv (k H locs ls hP hS hl)
theorem g_ldc (X : Cx p s m args c A D cA ad own cc mx) {index : Nat} {v : Int32} {z : Int} (hd : decode cc pc = .ok (.ldc index, 2)) (hw : Jvm.Cond.constant own index v ∈ allW) (hv : v = iI z) (k : Wg p l e R s m args below meth c A D cA ad cells slots G (pc + 2) lv (.int (iI z) :: st) σ) : Wg p l e R s m args below meth c A D cA ad cells slots G pc lv st σ := by
  subst hv
  exact fun H locs ls hP hS hl => lv_ldc X.1 X.2.1 X.2.2.2.1 (X.2.2.1 _ hw) hd (k H locs ls hP hS hl)
theorem g_ldc2 (X : Cx p s m args c A D cA ad own cc mx) {index : Nat} {v : Int64} {z : Int} (hd : decode cc pc = .ok (.ldc2_w index, 3)) (hw : Jvm.Cond.constantLong own index v ∈ allW) (hv : v = lI z) (k : Wg p l e R s m args below meth c A D cA ad cells slots G (pc + 3) lv (.long (lI z) :: st) σ) : Wg p l e R s m args below meth c A D cA ad cells slots G pc lv st σ := by
  subst hv
  exact fun H locs ls hP hS hl => lv_ldc2 X.1 X.2.1 X.2.2.2.1 (X.2.2.1 _ hw) hd (k H locs ls hP hS hl)
theorem g_null (X : Cx p s m args c A D cA ad own cc mx) (hd : decode cc pc = .ok (.aconst_null, 1)) (k : Wg p l e R s m args below meth c A D cA ad cells slots G (pc + 1) lv (.null :: st) σ) : Wg p l e R s m args below meth c A D cA ad cells slots G pc lv st σ :=
  fun H locs ls hP hS hl => lv_null X.1 X.2.1 hd (k H locs ls hP hS hl)
theorem g_iload_n (X : Cx p s m args c A D cA ad own cc mx) {q : Fin 4} {x : Int32} (j : Nat) (hd : decode cc pc = .ok (.iload_n q, 1)) (hk : lv[j]? = some ((q : Nat), .int x)) (k : Wg p l e R s m args below meth c A D cA ad cells slots G (pc + 1) lv (.int x :: st) σ) : Wg p l e R s m args below meth c A D cA ad cells slots G pc lv st σ :=
  fun H locs ls hP hS hl => lv_iload_n X.1 X.2.1 hd rfl (lvm_at hl j hk) (k H locs ls hP hS hl)
theorem g_iload (X : Cx p s m args c A D cA ad own cc mx) {i : Nat} {x : Int32} (j : Nat) (hd : decode cc pc = .ok (.iload i, 2)) (hk : lv[j]? = some (i, .int x)) (k : Wg p l e R s m args below meth c A D cA ad cells slots G (pc + 2) lv (.int x :: st) σ) : Wg p l e R s m args below meth c A D cA ad cells slots G pc lv st σ :=
  fun H locs ls hP hS hl => lv_iload X.1 X.2.1 hd (lvm_at hl j hk) (k H locs ls hP hS hl)
theorem g_lload_n (X : Cx p s m args c A D cA ad own cc mx) {q : Fin 4} {x : Int64} (j : Nat) (hd : decode cc pc = .ok (.lload_n q, 1)) (hk : lv[j]? = some ((q : Nat), .long x)) (k : Wg p l e R s m args below meth c A D cA ad cells slots G (pc + 1) lv (.long x :: st) σ) : Wg p l e R s m args below meth c A D cA ad cells slots G pc lv st σ :=
  fun H locs ls hP hS hl => lv_lload_n X.1 X.2.1 hd rfl (lvm_at hl j hk) (k H locs ls hP hS hl)
theorem g_lload (X : Cx p s m args c A D cA ad own cc mx) {i : Nat} {x : Int64} (j : Nat) (hd : decode cc pc = .ok (.lload i, 2)) (hk : lv[j]? = some (i, .long x)) (k : Wg p l e R s m args below meth c A D cA ad cells slots G (pc + 2) lv (.long x :: st) σ) : Wg p l e R s m args below meth c A D cA ad cells slots G pc lv st σ :=
  fun H locs ls hP hS hl => lv_lload X.1 X.2.1 hd (lvm_at hl j hk) (k H locs ls hP hS hl)
theorem g_aload_n (X : Cx p s m args c A D cA ad own cc mx) {q : Fin 4} {x : Nat} (j : Nat) (hd : decode cc pc = .ok (.aload_n q, 1)) (hk : lv[j]? = some ((q : Nat), .ref x)) (k : Wg p l e R s m args below meth c A D cA ad cells slots G (pc + 1) lv (.ref x :: st) σ) : Wg p l e R s m args below meth c A D cA ad cells slots G pc lv st σ :=
  fun H locs ls hP hS hl => lv_aload_n X.1 X.2.1 hd rfl (lvm_at hl j hk) (k H locs ls hP hS hl)
theorem g_aload (X : Cx p s m args c A D cA ad own cc mx) {i : Nat} {x : Nat} (j : Nat) (hd : decode cc pc = .ok (.aload i, 2)) (hk : lv[j]? = some (i, .ref x)) (k : Wg p l e R s m args below meth c A D cA ad cells slots G (pc + 2) lv (.ref x :: st) σ) : Wg p l e R s m args below meth c A D cA ad cells slots G pc lv st σ :=
  fun H locs ls hP hS hl => lv_aload X.1 X.2.1 hd (lvm_at hl j hk) (k H locs ls hP hS hl)
theorem g_aload_nN (X : Cx p s m args c A D cA ad own cc mx) {q : Fin 4} (j : Nat) (hd : decode cc pc = .ok (.aload_n q, 1)) (hk : lv[j]? = some ((q : Nat), .null)) (k : Wg p l e R s m args below meth c A D cA ad cells slots G (pc + 1) lv (.null :: st) σ) : Wg p l e R s m args below meth c A D cA ad cells slots G pc lv st σ :=
  fun H locs ls hP hS hl => lv_aload_nN X.1 X.2.1 hd rfl (lvm_at hl j hk) (k H locs ls hP hS hl)
theorem g_aloadN (X : Cx p s m args c A D cA ad own cc mx) {i : Nat} (j : Nat) (hd : decode cc pc = .ok (.aload i, 2)) (hk : lv[j]? = some (i, .null)) (k : Wg p l e R s m args below meth c A D cA ad cells slots G (pc + 2) lv (.null :: st) σ) : Wg p l e R s m args below meth c A D cA ad cells slots G pc lv st σ :=
  fun H locs ls hP hS hl => lv_aloadN X.1 X.2.1 hd (lvm_at hl j hk) (k H locs ls hP hS hl)
theorem g_istore_n (X : Cx p s m args c A D cA ad own cc mx) {q : Fin 4} {x : Int32} (hd : decode cc pc = .ok (.istore_n q, 1)) (hn : (q : Nat) < mx) (hl : ((q : Nat), Value.int x) :: lv.filter (fl1 q) = lv') (k : Wg p l e R s m args below meth c A D cA ad cells slots G (pc + 1) lv' st σ) : Wg p l e R s m args below meth c A D cA ad cells slots G pc lv (.int x :: st) σ :=
  fun H locs ls hP hS h => lv_istore_n X.1 X.2.1 hd rfl h (by rw [X.2.2.2.2.2.2.2.1]; exact hn) (lvm_f1 (v := .int x) hl) (fun ls' h' => k H locs ls' hP hS h')
theorem g_istore (X : Cx p s m args c A D cA ad own cc mx) {i : Nat} {x : Int32} (hd : decode cc pc = .ok (.istore i, 2)) (hn : i < mx) (hl : (i, Value.int x) :: lv.filter (fl1 i) = lv') (k : Wg p l e R s m args below meth c A D cA ad cells slots G (pc + 2) lv' st σ) : Wg p l e R s m args below meth c A D cA ad cells slots G pc lv (.int x :: st) σ :=
  fun H locs ls hP hS h => lv_istore X.1 X.2.1 hd h (by rw [X.2.2.2.2.2.2.2.1]; exact hn) (lvm_f1 (v := .int x) hl) (fun ls' h' => k H locs ls' hP hS h')
theorem g_lstore_n (X : Cx p s m args c A D cA ad own cc mx) {q : Fin 4} {x : Int64} (hd : decode cc pc = .ok (.lstore_n q, 1)) (hn : (q : Nat) + 1 < mx) (hl : ((q : Nat), Value.long x) :: lv.filter (fl2 q) = lv') (k : Wg p l e R s m args below meth c A D cA ad cells slots G (pc + 1) lv' st σ) : Wg p l e R s m args below meth c A D cA ad cells slots G pc lv (.long x :: st) σ :=
  fun H locs ls hP hS h => lv_lstore_n X.1 X.2.1 hd rfl h (by rw [X.2.2.2.2.2.2.2.1]; exact hn) (lvm_f2 (v := .long x) hl) (fun ls' h' => k H locs ls' hP hS h')
theorem g_lstore (X : Cx p s m args c A D cA ad own cc mx) {i : Nat} {x : Int64} (hd : decode cc pc = .ok (.lstore i, 2)) (hn : i + 1 < mx) (hl : (i, Value.long x) :: lv.filter (fl2 i) = lv') (k : Wg p l e R s m args below meth c A D cA ad cells slots G (pc + 2) lv' st σ) : Wg p l e R s m args below meth c A D cA ad cells slots G pc lv (.long x :: st) σ :=
  fun H locs ls hP hS h => lv_lstore X.1 X.2.1 hd h (by rw [X.2.2.2.2.2.2.2.1]; exact hn) (lvm_f2 (v := .long x) hl) (fun ls' h' => k H locs ls' hP hS h')
theorem g_astore_n (X : Cx p s m args c A D cA ad own cc mx) {q : Fin 4} {x : Nat} (hd : decode cc pc = .ok (.astore_n q, 1)) (hn : (q : Nat) < mx) (hl : ((q : Nat), Value.ref x) :: lv.filter (fl1 q) = lv') (k : Wg p l e R s m args below meth c A D cA ad cells slots G (pc + 1) lv' st σ) : Wg p l e R s m args below meth c A D cA ad cells slots G pc lv (.ref x :: st) σ :=
  fun H locs ls hP hS h => lv_astore_n X.1 X.2.1 hd rfl h (by rw [X.2.2.2.2.2.2.2.1]; exact hn) (lvm_f1 (v := .ref x) hl) (fun ls' h' => k H locs ls' hP hS h')
theorem g_astore (X : Cx p s m args c A D cA ad own cc mx) {i : Nat} {x : Nat} (hd : decode cc pc = .ok (.astore i, 2)) (hn : i < mx) (hl : (i, Value.ref x) :: lv.filter (fl1 i) = lv') (k : Wg p l e R s m args below meth c A D cA ad cells slots G (pc + 2) lv' st σ) : Wg p l e R s m args below meth c A D cA ad cells slots G pc lv (.ref x :: st) σ :=
  fun H locs ls hP hS h => lv_astore X.1 X.2.1 hd h (by rw [X.2.2.2.2.2.2.2.1]; exact hn) (lvm_f1 (v := .ref x) hl) (fun ls' h' => k H locs ls' hP hS h')
theorem g_astore_nN (X : Cx p s m args c A D cA ad own cc mx) {q : Fin 4} (hd : decode cc pc = .ok (.astore_n q, 1)) (hn : (q : Nat) < mx) (hl : ((q : Nat), Value.null) :: lv.filter (fl1 q) = lv') (k : Wg p l e R s m args below meth c A D cA ad cells slots G (pc + 1) lv' st σ) : Wg p l e R s m args below meth c A D cA ad cells slots G pc lv (.null :: st) σ :=
  fun H locs ls hP hS h => lv_astore_nN X.1 X.2.1 hd rfl h (by rw [X.2.2.2.2.2.2.2.1]; exact hn) (lvm_f1 (v := .null) hl) (fun ls' h' => k H locs ls' hP hS h')
theorem g_astoreN (X : Cx p s m args c A D cA ad own cc mx) {i : Nat} (hd : decode cc pc = .ok (.astore i, 2)) (hn : i < mx) (hl : (i, Value.null) :: lv.filter (fl1 i) = lv') (k : Wg p l e R s m args below meth c A D cA ad cells slots G (pc + 2) lv' st σ) : Wg p l e R s m args below meth c A D cA ad cells slots G pc lv (.null :: st) σ :=
  fun H locs ls hP hS h => lv_astoreN X.1 X.2.1 hd h (by rw [X.2.2.2.2.2.2.2.1]; exact hn) (lvm_f1 (v := .null) hl) (fun ls' h' => k H locs ls' hP hS h')
theorem g_iinc (X : Cx p s m args c A D cA ad own cc mx) {i : Nat} {n x : Int} (j : Nat) (hd : decode cc pc = .ok (.iinc i n, 3)) (hk : lv[j]? = some (i, .int (iI x))) (hn : i < mx) (hl : (i, Value.int (iI (x + n))) :: lv.filter (fl1 i) = lv') (k : Wg p l e R s m args below meth c A D cA ad cells slots G (pc + 3) lv' st σ) : Wg p l e R s m args below meth c A D cA ad cells slots G pc lv st σ :=
  fun H locs ls hP hS h => lv_iinc (k := j) X.1 X.2.1 hd h (by rw [List.getElem?_map, hk]; rfl) (iI_add x n) (by rw [X.2.2.2.2.2.2.2.1]; exact hn) (lvm_f1 (v := .int (iI (x + n))) hl) (fun ls' h' => k H locs ls' hP hS h')
theorem g_iadd (X : Cx p s m args c A D cA ad own cc mx) {x y : Int} (hd : decode cc pc = .ok (.iadd, 1)) (k : Wg p l e R s m args below meth c A D cA ad cells slots G (pc + 1) lv (.int (iI (x + y)) :: st) σ) : Wg p l e R s m args below meth c A D cA ad cells slots G pc lv (.int (iI y) :: .int (iI x) :: st) σ := by
  rw [← iI_add] at k
  exact fun H locs ls hP hS hl => lv_iadd X.1 X.2.1 hd (k H locs ls hP hS hl)
theorem g_isub (X : Cx p s m args c A D cA ad own cc mx) {x y : Int} (hd : decode cc pc = .ok (.isub, 1)) (k : Wg p l e R s m args below meth c A D cA ad cells slots G (pc + 1) lv (.int (iI (x - y)) :: st) σ) : Wg p l e R s m args below meth c A D cA ad cells slots G pc lv (.int (iI y) :: .int (iI x) :: st) σ := by
  rw [← iI_sub] at k
  exact fun H locs ls hP hS hl => lv_isub X.1 X.2.1 hd (k H locs ls hP hS hl)
theorem g_imul (X : Cx p s m args c A D cA ad own cc mx) {x y : Int} (hd : decode cc pc = .ok (.imul, 1)) (k : Wg p l e R s m args below meth c A D cA ad cells slots G (pc + 1) lv (.int (iI (x * y)) :: st) σ) : Wg p l e R s m args below meth c A D cA ad cells slots G pc lv (.int (iI y) :: .int (iI x) :: st) σ := by
  rw [← iI_mul] at k
  exact fun H locs ls hP hS hl => lv_imul X.1 X.2.1 hd (k H locs ls hP hS hl)
theorem g_idiv (X : Cx p s m args c A D cA ad own cc mx) {x y : Int} (hd : decode cc pc = .ok (.idiv, 1)) (hx : i32 x) (hy : i32 y) (h0 : y ≠ 0) (k : Wg p l e R s m args below meth c A D cA ad cells slots G (pc + 1) lv (.int (iI (x.tdiv y)) :: st) σ) : Wg p l e R s m args below meth c A D cA ad cells slots G pc lv (.int (iI y) :: .int (iI x) :: st) σ := by
  rw [← iI_div hx hy] at k
  exact fun H locs ls hP hS hl => lv_idiv X.1 X.2.1 hd (fun q => h0 ((iI_eq hy (by omega)).mp (q.trans iI_0.symm))) (k H locs ls hP hS hl)
theorem g_irem (X : Cx p s m args c A D cA ad own cc mx) {x y : Int} (hd : decode cc pc = .ok (.irem, 1)) (hx : i32 x) (hy : i32 y) (h0 : y ≠ 0) (k : Wg p l e R s m args below meth c A D cA ad cells slots G (pc + 1) lv (.int (iI (x.tmod y)) :: st) σ) : Wg p l e R s m args below meth c A D cA ad cells slots G pc lv (.int (iI y) :: .int (iI x) :: st) σ := by
  rw [← iI_rem hx hy] at k
  exact fun H locs ls hP hS hl => lv_irem X.1 X.2.1 hd (fun q => h0 ((iI_eq hy (by omega)).mp (q.trans iI_0.symm))) (k H locs ls hP hS hl)
theorem g_iand14 (X : Cx p s m args c A D cA ad own cc mx) {x : Int} (hd : decode cc pc = .ok (.iand, 1)) (k : Wg p l e R s m args below meth c A D cA ad cells slots G (pc + 1) lv (.int (iI (x % 16384)) :: st) σ) : Wg p l e R s m args below meth c A D cA ad cells slots G pc lv (.int (iI 16383) :: .int (iI x) :: st) σ := by
  rw [← iI_and14] at k
  exact fun H locs ls hP hS hl => lv_iand X.1 X.2.1 hd (k H locs ls hP hS hl)
theorem g_iand6 (X : Cx p s m args c A D cA ad own cc mx) {x : Int} (hd : decode cc pc = .ok (.iand, 1)) (k : Wg p l e R s m args below meth c A D cA ad cells slots G (pc + 1) lv (.int (iI (x % 64)) :: st) σ) : Wg p l e R s m args below meth c A D cA ad cells slots G pc lv (.int (iI 63) :: .int (iI x) :: st) σ := by
  rw [← iI_and6] at k
  exact fun H locs ls hP hS hl => lv_iand X.1 X.2.1 hd (k H locs ls hP hS hl)
theorem g_ladd (X : Cx p s m args c A D cA ad own cc mx) {x y : Int} (hd : decode cc pc = .ok (.ladd, 1)) (k : Wg p l e R s m args below meth c A D cA ad cells slots G (pc + 1) lv (.long (lI (x + y)) :: st) σ) : Wg p l e R s m args below meth c A D cA ad cells slots G pc lv (.long (lI y) :: .long (lI x) :: st) σ := by
  rw [← lI_add] at k
  exact fun H locs ls hP hS hl => lv_ladd X.1 X.2.1 hd (k H locs ls hP hS hl)
theorem g_lsub (X : Cx p s m args c A D cA ad own cc mx) {x y : Int} (hd : decode cc pc = .ok (.lsub, 1)) (k : Wg p l e R s m args below meth c A D cA ad cells slots G (pc + 1) lv (.long (lI (x - y)) :: st) σ) : Wg p l e R s m args below meth c A D cA ad cells slots G pc lv (.long (lI y) :: .long (lI x) :: st) σ := by
  rw [← lI_sub] at k
  exact fun H locs ls hP hS hl => lv_lsub X.1 X.2.1 hd (k H locs ls hP hS hl)
theorem g_lmul (X : Cx p s m args c A D cA ad own cc mx) {x y : Int} (hd : decode cc pc = .ok (.lmul, 1)) (k : Wg p l e R s m args below meth c A D cA ad cells slots G (pc + 1) lv (.long (lI (x * y)) :: st) σ) : Wg p l e R s m args below meth c A D cA ad cells slots G pc lv (.long (lI y) :: .long (lI x) :: st) σ := by
  rw [← lI_mul] at k
  exact fun H locs ls hP hS hl => lv_lmul X.1 X.2.1 hd (k H locs ls hP hS hl)
theorem g_ldiv (X : Cx p s m args c A D cA ad own cc mx) {x y : Int} (hd : decode cc pc = .ok (.ldiv, 1)) (hx : i64 x) (hy : i64 y) (h0 : y ≠ 0) (k : Wg p l e R s m args below meth c A D cA ad cells slots G (pc + 1) lv (.long (lI (x.tdiv y)) :: st) σ) : Wg p l e R s m args below meth c A D cA ad cells slots G pc lv (.long (lI y) :: .long (lI x) :: st) σ := by
  rw [← lI_div hx hy] at k
  exact fun H locs ls hP hS hl => lv_ldiv X.1 X.2.1 hd (fun q => h0 ((lI_eq hy (by omega)).mp (q.trans lI_0.symm))) (k H locs ls hP hS hl)
theorem g_lrem (X : Cx p s m args c A D cA ad own cc mx) {x y : Int} (hd : decode cc pc = .ok (.lrem, 1)) (hx : i64 x) (hy : i64 y) (h0 : y ≠ 0) (k : Wg p l e R s m args below meth c A D cA ad cells slots G (pc + 1) lv (.long (lI (x.tmod y)) :: st) σ) : Wg p l e R s m args below meth c A D cA ad cells slots G pc lv (.long (lI y) :: .long (lI x) :: st) σ := by
  rw [← lI_rem hx hy] at k
  exact fun H locs ls hP hS hl => lv_lrem X.1 X.2.1 hd (fun q => h0 ((lI_eq hy (by omega)).mp (q.trans lI_0.symm))) (k H locs ls hP hS hl)
theorem g_land14 (X : Cx p s m args c A D cA ad own cc mx) {x : Int} (hd : decode cc pc = .ok (.land, 1)) (k : Wg p l e R s m args below meth c A D cA ad cells slots G (pc + 1) lv (.long (lI (x % 16384)) :: st) σ) : Wg p l e R s m args below meth c A D cA ad cells slots G pc lv (.long (lI 16383) :: .long (lI x) :: st) σ := by
  rw [← lI_and14] at k
  exact fun H locs ls hP hS hl => lv_land X.1 X.2.1 hd (k H locs ls hP hS hl)
theorem g_land32 (X : Cx p s m args c A D cA ad own cc mx) {x : Int} (hd : decode cc pc = .ok (.land, 1)) (k : Wg p l e R s m args below meth c A D cA ad cells slots G (pc + 1) lv (.long (lI (x % 4294967296)) :: st) σ) : Wg p l e R s m args below meth c A D cA ad cells slots G pc lv (.long (lI 4294967295) :: .long (lI x) :: st) σ := by
  rw [← lI_and32] at k
  exact fun H locs ls hP hS hl => lv_land X.1 X.2.1 hd (k H locs ls hP hS hl)
theorem g_i2l (X : Cx p s m args c A D cA ad own cc mx) {x : Int} (hd : decode cc pc = .ok (.i2l, 1)) (hx : i32 x) (k : Wg p l e R s m args below meth c A D cA ad cells slots G (pc + 1) lv (.long (lI x) :: st) σ) : Wg p l e R s m args below meth c A D cA ad cells slots G pc lv (.int (iI x) :: st) σ := by
  rw [← iI_toL hx] at k
  exact fun H locs ls hP hS hl => lv_i2l X.1 X.2.1 hd rfl (k H locs ls hP hS hl)
theorem g_l2i (X : Cx p s m args c A D cA ad own cc mx) {x : Int} (hd : decode cc pc = .ok (.l2i, 1)) (k : Wg p l e R s m args below meth c A D cA ad cells slots G (pc + 1) lv (.int (iI x) :: st) σ) : Wg p l e R s m args below meth c A D cA ad cells slots G pc lv (.long (lI x) :: st) σ := by
  rw [← lI_toI] at k
  exact fun H locs ls hP hS hl => lv_l2i X.1 X.2.1 hd rfl (k H locs ls hP hS hl)
theorem g_dup (X : Cx p s m args c A D cA ad own cc mx) {v : Value} (hd : decode cc pc = .ok (.dup, 1)) (hv : v.category = 1) (k : Wg p l e R s m args below meth c A D cA ad cells slots G (pc + 1) lv (v :: v :: st) σ) : Wg p l e R s m args below meth c A D cA ad cells slots G pc lv (v :: st) σ :=
  fun H locs ls hP hS hl => lv_dup X.1 X.2.1 hd (by rw [cv_cat]; exact hv) (k H locs ls hP hS hl)
theorem g_dup2 (X : Cx p s m args c A D cA ad own cc mx) {v w : Value} (hd : decode cc pc = .ok (.dup2, 1)) (hv : v.category = 1) (hw : w.category = 1) (k : Wg p l e R s m args below meth c A D cA ad cells slots G (pc + 1) lv (v :: w :: v :: w :: st) σ) : Wg p l e R s m args below meth c A D cA ad cells slots G pc lv (v :: w :: st) σ :=
  fun H locs ls hP hS hl => lv_dup2_11 X.1 X.2.1 hd (by rw [cv_cat]; exact hv) (by rw [cv_cat]; exact hw) (k H locs ls hP hS hl)
theorem g_pop (X : Cx p s m args c A D cA ad own cc mx) {v : Value} (hd : decode cc pc = .ok (.pop, 1)) (hv : v.category = 1) (k : Wg p l e R s m args below meth c A D cA ad cells slots G (pc + 1) lv st σ) : Wg p l e R s m args below meth c A D cA ad cells slots G pc lv (v :: st) σ :=
  fun H locs ls hP hS hl => lv_pop X.1 X.2.1 hd (by rw [cv_cat]; exact hv) (k H locs ls hP hS hl)
theorem g_goto (X : Cx p s m args c A D cA ad own cc mx) {off : Int} {tgt : Nat} (hd : decode cc pc = .ok (.goto off, 3)) (ht : (pc : Int) + off = (tgt : Int)) (k : Wg p l e R s m args below meth c A D cA ad cells slots G tgt lv st σ) : Wg p l e R s m args below meth c A D cA ad cells slots G pc lv st σ :=
  fun H locs ls hP hS hl => lv_goto X.1 X.2.1 hd ht (k H locs ls hP hS hl)
end GR
