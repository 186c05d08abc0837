/-! by program (wip/whole/copy3.py): what Base's telling needs, over a world of three objects: 0 the Base, 1 its steps, 2 its worths -/
def shpLT : List (Nat × Nat × Nat) := [(0,0,0), (1,0,43), (2,0,43)]
def shpT (id : Nat) : Nat × Nat × Nat := shpLT.getD id (9, 0, 0)
def finT (id j : Nat) : Nat := id + j
def NNT : Nat := 3
def entFT (ad : Nat → Nat) (σ : ASt) (id j t : Nat) : Value :=
  if t = 0 then .int (iI (σ.1 id (j : Int))) else if t = 1 then .long (lI (σ.2.1 id (j : Int))) else if t = 2 then .ref (ad (finT id j)) else va_rf ((σ.2.2 id j).map ad)
def entT (cA : Nat → ClassId) (ad : Nat → Nat) (σ : ASt) (id : Nat) : va_E :=
  if (shpT id).1 = 0 then .inr ((shpT id).2.1, (fty (shpT id).2.1).mapIdx (fun j t => entFT ad σ id j t))
  else if (shpT id).1 = 1 then .inl (cA 0, (shpT id).2.2, .inl (fun j => iI (σ.1 id (j : Int))))
  else if (shpT id).1 = 2 then .inl (cA 1, (shpT id).2.2, .inr (.inl (fun j => lI (σ.2.1 id (j : Int)))))
  else if (shpT id).1 = 3 then .inl (cA 2, (shpT id).2.2, .inl (fun j => iI (σ.1 id (j : Int))))
  else .inl (cA (shpT id).2.1, (shpT id).2.2, .inr (.inr (.inr (.inr (fun j => some (ad (finT id j)))))))
def wlT (cA : Nat → ClassId) (ad : Nat → Nat) (σ : ASt) : va_W := (List.range NNT).map (fun id => (ad id, entT cA ad σ id))
theorem shp_ltT {id : Nat} {q : Nat × Nat × Nat} (h : shpT id = q) (hq : q.1 < 9) : id < NNT := by
  by_cases hl : id < NNT
  · exact hl
  · exfalso
    have h1 : shpLT.length ≤ id := by
      have : shpLT.length = NNT := by decide +kernel
      omega
    unfold shpT at h
    rw [List.getD_eq_getElem?_getD, List.getElem?_eq_none h1] at h
    subst h
    exact absurd hq (by decide)
theorem wl_getT (cA : Nat → ClassId) (ad : Nat → Nat) (σ : ASt) {id : Nat} (h : id < NNT) : (wlT cA ad σ)[id]? = some (ad id, entT cA ad σ id) := by
  unfold wlT
  rw [List.getElem?_map, List.getElem?_range h]
  rfl
theorem wl_setT (cA : Nat → ClassId) (ad : Nat → Nat) (σ σ' : ASt) {id : Nat} {e : va_E} (h : id < NNT) (he : entT cA ad σ' id = e) (ho : ∀ k, k ≠ id → entT cA ad σ' k = entT cA ad σ k) : (wlT cA ad σ).set id (ad id, e) = wlT cA ad σ' := by
  apply List.ext_getElem?
  intro k
  have hlen : (wlT cA ad σ).length = NNT := by simp [wlT]
  by_cases hk : k < NNT
  · rw [wl_getT cA ad σ' hk]
    by_cases hki : k = id
    · subst hki
      rw [List.getElem?_set_self (by omega), he]
    · rw [List.getElem?_set_ne (fun q => hki q.symm), wl_getT cA ad σ hk, ho k hki]
  · rw [List.getElem?_eq_none (by simp [hlen]; omega), List.getElem?_eq_none (by simp [wlT]; omega)]
def adInjT (ad : Nat → Nat) : Prop := ∀ i j : Nat, i < NNT → j < NNT → ad i = ad j → i = j
def adAT (ad : Nat → Nat) : Nat → Prop := fun q => ∃ i : Nat, i < NNT ∧ q = ad i
theorem wl_DT {A : Nat → Prop} {cA : Nat → ClassId} {ad : Nat → Nat} {σ : ASt} (h1 : adInjT ad) (h2 : ∀ i, i < NNT → A (ad i)) : va_D A (wlT cA ad σ) := by
  have key : ∀ (k : Nat) (q : Nat × va_E), (wlT cA ad σ)[k]? = some q → k < NNT ∧ q.1 = ad k := by
    intro k q hk
    have hl : k < NNT := by
      have := (List.getElem?_eq_some_iff.mp hk).1
      simpa [wlT] using this
    rw [wl_getT cA ad σ hl] at hk
    cases hk
    exact ⟨hl, rfl⟩
  refine ⟨fun i j p q hi hj hpq => ?_, fun k q hk => ?_⟩
  · obtain ⟨a1, a2⟩ := key i p hi
    obtain ⟨b1, b2⟩ := key j q hj
    exact h1 i j a1 b1 (by rw [← a2, ← b2, hpq])
  · obtain ⟨a1, a2⟩ := key k q hk
    rw [a2]
    exact h2 k a1
theorem ent_otherT {cA : Nat → ClassId} {ad : Nat → Nat} {σ σ' : ASt} {a : Nat} (h1 : ∀ b, b ≠ a → σ'.1 b = σ.1 b) (h2 : ∀ b, b ≠ a → σ'.2.1 b = σ.2.1 b) (h3 : ∀ b, b ≠ a → σ'.2.2 b = σ.2.2 b) : ∀ k, k ≠ a → entT cA ad σ' k = entT cA ad σ k := by
  intro k hk
  unfold entT entFT
  rw [h1 k hk, h2 k hk, h3 k hk]
theorem ent_1T {cA : Nat → ClassId} {ad : Nat → Nat} {σ : ASt} {a n x : Nat} (h : shpT a = (1, x, n)) : entT cA ad σ a = .inl (cA 0, n, .inl (fun j => iI (σ.1 a (j : Int)))) := by
  unfold entT; rw [h]; rfl
theorem ent_2T {cA : Nat → ClassId} {ad : Nat → Nat} {σ : ASt} {a n x : Nat} (h : shpT a = (2, x, n)) : entT cA ad σ a = .inl (cA 1, n, .inr (.inl (fun j => lI (σ.2.1 a (j : Int))))) := by
  unfold entT; rw [h]; rfl
theorem ent_0T {cA : Nat → ClassId} {ad : Nat → Nat} {σ : ASt} {a n x : Nat} (h : shpT a = (0, x, n)) : entT cA ad σ a = .inr (x, (fty x).mapIdx (fun j t => entFT ad σ a j t)) := by
  unfold entT; rw [h]; rfl
def CxT (p : Program) (s : State) (m : MethodId) (args : Array Value) (c : Code) (A : Nat → Prop) (D : va_G) (cA : Nat → ClassId) (ad : Nat → Nat) (own : String) (cc : ByteArray) (mx : Nat) : Prop :=
  p.tables.exec = Jvm.exec ∧ c.code = cc ∧ (∀ w ∈ allW, w.before args s = true) ∧ s.vm.findClass own = some m.cls ∧ va_K D vwCl (tyL cA) s ∧ adInjT ad ∧ (∀ i, i < NNT → A (ad i)) ∧ c.maxLocals = mx ∧ Nst s
def WgT (p : Program) (l : Launch) (e : Env) (R : Room) (s : State) (m : MethodId) (args : Array Value) (below : List Frame) (meth : Method) (c : Code) (A : Nat → Prop) (D : va_G) (cA : Nat → ClassId) (ad : Nat → Nat) (cells slots : Nat) (G : State → Prop) (pc : Nat) (lv : List (Nat × Value)) (st : List Value) (σ : ASt) : Prop :=
  ∀ (H : Heap) (locs : List Loc) (ls : Array Slot), va_P D vwCl (wlT cA ad σ) H → va_S A s.heap H locs → lv_has ls c.maxLocals (lv.map (cvp ad)) → W p l e R s m args below meth c H locs cells slots G (F0 m pc ls (st.map (cv ad)))
section GR
variable {p : Program} {l : Launch} {e : Env} {R : Room} {s : State} {m : MethodId} {args : Array Value} {below : List Frame} {meth : Method} {c : Code} {A : Nat → Prop} {D : va_G} {cA : Nat → ClassId} {ad : Nat → Nat} {cells slots : Nat} {G : State → Prop} {own : String} {cc : ByteArray} {mx : Nat} {pc : Nat} {lv lv' : List (Nat × Value)} {st : List Value} {σ : ASt}
theorem g_subT (ks : List Nat) (h : lv_pick lv ks = lv') (k : WgT p l e R s m args below meth c A D cA ad cells slots G pc lv' st σ) : WgT p l e R s m args below meth c A D cA ad cells slots G pc lv st σ := fun H locs ls hP hS hl => k H locs ls hP hS (lv_sub hl ks (by
  subst h
  unfold lv_pick
  rw [List.map_filterMap]
  congr 1
  funext i
  rw [List.getElem?_map]))
theorem g_iconstT (X : CxT p s m args c A D cA ad own cc mx) {n : Int} (hd : decode cc pc = .ok (.iconst n, 1)) (k : WgT p l e R s m args below meth c A D cA ad cells slots G (pc + 1) lv (.int (iI n) :: st) σ) : WgT p l e R s m args below meth c A D cA ad cells slots G pc lv st σ :=
  fun H locs ls hP hS hl => lv_iconst X.1 X.2.1 hd rfl (k H locs ls hP hS hl)
theorem g_bipushT (X : CxT p s m args c A D cA ad own cc mx) {n : Int} (hd : decode cc pc = .ok (.bipush n, 2)) (hv : (Int8.ofInt n).toInt32 = iI n) (k : WgT p l e R s m args below meth c A D cA ad cells slots G (pc + 2) lv (.int (iI n) :: st) σ) : WgT p l e R s m args below meth c A D cA ad cells slots G pc lv st σ :=
  fun H locs ls hP hS hl => lv_bipush X.1 X.2.1 hd hv (k H locs ls hP hS hl)
theorem g_lconstT (X : CxT p s m args c A D cA ad own cc mx) {n : Fin 2} {z : Int} (hd : decode cc pc = .ok (.lconst n, 1)) (hv : Int64.ofNat (n : Nat) = lI z) (k : WgT p l e R s m args below meth c A D cA ad cells slots G (pc + 1) lv (.long (lI z) :: st) σ) : WgT p l e R s m args below meth c A D cA ad cells slots G pc lv st σ :=
  fun H locs ls hP hS hl => lv_lconst X.1 X.2.1 hd hv (k H locs ls hP hS hl)
theorem g_ldc2T (X : CxT p s m args c A D cA ad own cc mx) {index : Nat} {v : Int64} {z : Int} (hd : decode cc pc = .ok (.ldc2_w index, 3)) (hw : Jvm.Cond.constantLong own index v ∈ allW) (hv : v = lI z) (k : WgT p l e R s m args below meth c A D cA ad cells slots G (pc + 3) lv (.long (lI z) :: st) σ) : WgT p l e R s m args below meth c A D cA ad cells slots G pc lv st σ := by
  subst hv
  exact fun H locs ls hP hS hl => lv_ldc2 X.1 X.2.1 X.2.2.2.1 (X.2.2.1 _ hw) hd (k H locs ls hP hS hl)
theorem g_iload_nT (X : CxT p s m args c A D cA ad own cc mx) {q : Fin 4} {x : Int32} (j : Nat) (hd : decode cc pc = .ok (.iload_n q, 1)) (hk : lv[j]? = some ((q : Nat), .int x)) (k : WgT p l e R s m args below meth c A D cA ad cells slots G (pc + 1) lv (.int x :: st) σ) : WgT p l e R s m args below meth c A D cA ad cells slots G pc lv st σ :=
  fun H locs ls hP hS hl => lv_iload_n X.1 X.2.1 hd rfl (lvm_at hl j hk) (k H locs ls hP hS hl)
theorem g_iloadT (X : CxT p s m args c A D cA ad own cc mx) {i : Nat} {x : Int32} (j : Nat) (hd : decode cc pc = .ok (.iload i, 2)) (hk : lv[j]? = some (i, .int x)) (k : WgT p l e R s m args below meth c A D cA ad cells slots G (pc + 2) lv (.int x :: st) σ) : WgT p l e R s m args below meth c A D cA ad cells slots G pc lv st σ :=
  fun H locs ls hP hS hl => lv_iload X.1 X.2.1 hd (lvm_at hl j hk) (k H locs ls hP hS hl)
theorem g_lload_nT (X : CxT p s m args c A D cA ad own cc mx) {q : Fin 4} {x : Int64} (j : Nat) (hd : decode cc pc = .ok (.lload_n q, 1)) (hk : lv[j]? = some ((q : Nat), .long x)) (k : WgT p l e R s m args below meth c A D cA ad cells slots G (pc + 1) lv (.long x :: st) σ) : WgT p l e R s m args below meth c A D cA ad cells slots G pc lv st σ :=
  fun H locs ls hP hS hl => lv_lload_n X.1 X.2.1 hd rfl (lvm_at hl j hk) (k H locs ls hP hS hl)
theorem g_lloadT (X : CxT p s m args c A D cA ad own cc mx) {i : Nat} {x : Int64} (j : Nat) (hd : decode cc pc = .ok (.lload i, 2)) (hk : lv[j]? = some (i, .long x)) (k : WgT p l e R s m args below meth c A D cA ad cells slots G (pc + 2) lv (.long x :: st) σ) : WgT p l e R s m args below meth c A D cA ad cells slots G pc lv st σ :=
  fun H locs ls hP hS hl => lv_lload X.1 X.2.1 hd (lvm_at hl j hk) (k H locs ls hP hS hl)
theorem g_aload_nT (X : CxT p s m args c A D cA ad own cc mx) {q : Fin 4} {x : Nat} (j : Nat) (hd : decode cc pc = .ok (.aload_n q, 1)) (hk : lv[j]? = some ((q : Nat), .ref x)) (k : WgT p l e R s m args below meth c A D cA ad cells slots G (pc + 1) lv (.ref x :: st) σ) : WgT p l e R s m args below meth c A D cA ad cells slots G pc lv st σ :=
  fun H locs ls hP hS hl => lv_aload_n X.1 X.2.1 hd rfl (lvm_at hl j hk) (k H locs ls hP hS hl)
theorem g_istore_nT (X : CxT p s m args c A D cA ad own cc mx) {q : Fin 4} {x : Int32} (hd : decode cc pc = .ok (.istore_n q, 1)) (hn : (q : Nat) < mx) (hl : ((q : Nat), Value.int x) :: lv.filter (fl1 q) = lv') (k : WgT p l e R s m args below meth c A D cA ad cells slots G (pc + 1) lv' st σ) : WgT p l e R s m args below meth c A D cA ad cells slots G pc lv (.int x :: st) σ :=
  fun H locs ls hP hS h => lv_istore_n X.1 X.2.1 hd rfl h (by rw [X.2.2.2.2.2.2.2.1]; exact hn) (lvm_f1 (v := .int x) hl) (fun ls' h' => k H locs ls' hP hS h')
theorem g_istoreT (X : CxT p s m args c A D cA ad own cc mx) {i : Nat} {x : Int32} (hd : decode cc pc = .ok (.istore i, 2)) (hn : i < mx) (hl : (i, Value.int x) :: lv.filter (fl1 i) = lv') (k : WgT p l e R s m args below meth c A D cA ad cells slots G (pc + 2) lv' st σ) : WgT p l e R s m args below meth c A D cA ad cells slots G pc lv (.int x :: st) σ :=
  fun H locs ls hP hS h => lv_istore X.1 X.2.1 hd h (by rw [X.2.2.2.2.2.2.2.1]; exact hn) (lvm_f1 (v := .int x) hl) (fun ls' h' => k H locs ls' hP hS h')
theorem g_lstore_nT (X : CxT p s m args c A D cA ad own cc mx) {q : Fin 4} {x : Int64} (hd : decode cc pc = .ok (.lstore_n q, 1)) (hn : (q : Nat) + 1 < mx) (hl : ((q : Nat), Value.long x) :: lv.filter (fl2 q) = lv') (k : WgT p l e R s m args below meth c A D cA ad cells slots G (pc + 1) lv' st σ) : WgT p l e R s m args below meth c A D cA ad cells slots G pc lv (.long x :: st) σ :=
  fun H locs ls hP hS h => lv_lstore_n X.1 X.2.1 hd rfl h (by rw [X.2.2.2.2.2.2.2.1]; exact hn) (lvm_f2 (v := .long x) hl) (fun ls' h' => k H locs ls' hP hS h')
theorem g_lstoreT (X : CxT p s m args c A D cA ad own cc mx) {i : Nat} {x : Int64} (hd : decode cc pc = .ok (.lstore i, 2)) (hn : i + 1 < mx) (hl : (i, Value.long x) :: lv.filter (fl2 i) = lv') (k : WgT p l e R s m args below meth c A D cA ad cells slots G (pc + 2) lv' st σ) : WgT p l e R s m args below meth c A D cA ad cells slots G pc lv (.long x :: st) σ :=
  fun H locs ls hP hS h => lv_lstore X.1 X.2.1 hd h (by rw [X.2.2.2.2.2.2.2.1]; exact hn) (lvm_f2 (v := .long x) hl) (fun ls' h' => k H locs ls' hP hS h')
theorem g_iincT (X : CxT p s m args c A D cA ad own cc mx) {i : Nat} {n x : Int} (j : Nat) (hd : decode cc pc = .ok (.iinc i n, 3)) (hk : lv[j]? = some (i, .int (iI x))) (hn : i < mx) (hl : (i, Value.int (iI (x + n))) :: lv.filter (fl1 i) = lv') (k : WgT p l e R s m args below meth c A D cA ad cells slots G (pc + 3) lv' st σ) : WgT p l e R s m args below meth c A D cA ad cells slots G pc lv st σ :=
  fun H locs ls hP hS h => lv_iinc (k := j) X.1 X.2.1 hd h (by rw [List.getElem?_map, hk]; rfl) (iI_add x n) (by rw [X.2.2.2.2.2.2.2.1]; exact hn) (lvm_f1 (v := .int (iI (x + n))) hl) (fun ls' h' => k H locs ls' hP hS h')
theorem g_iaddT (X : CxT p s m args c A D cA ad own cc mx) {x y : Int} (hd : decode cc pc = .ok (.iadd, 1)) (k : WgT p l e R s m args below meth c A D cA ad cells slots G (pc + 1) lv (.int (iI (x + y)) :: st) σ) : WgT p l e R s m args below meth c A D cA ad cells slots G pc lv (.int (iI y) :: .int (iI x) :: st) σ := by
  rw [← iI_add] at k
  exact fun H locs ls hP hS hl => lv_iadd X.1 X.2.1 hd (k H locs ls hP hS hl)
theorem g_isubT (X : CxT p s m args c A D cA ad own cc mx) {x y : Int} (hd : decode cc pc = .ok (.isub, 1)) (k : WgT p l e R s m args below meth c A D cA ad cells slots G (pc + 1) lv (.int (iI (x - y)) :: st) σ) : WgT p l e R s m args below meth c A D cA ad cells slots G pc lv (.int (iI y) :: .int (iI x) :: st) σ := by
  rw [← iI_sub] at k
  exact fun H locs ls hP hS hl => lv_isub X.1 X.2.1 hd (k H locs ls hP hS hl)
theorem g_idivT (X : CxT p s m args c A D cA ad own cc mx) {x y : Int} (hd : decode cc pc = .ok (.idiv, 1)) (hx : i32 x) (hy : i32 y) (h0 : y ≠ 0) (k : WgT p l e R s m args below meth c A D cA ad cells slots G (pc + 1) lv (.int (iI (x.tdiv y)) :: st) σ) : WgT p l e R s m args below meth c A D cA ad cells slots G pc lv (.int (iI y) :: .int (iI x) :: st) σ := by
  rw [← iI_div hx hy] at k
  exact fun H locs ls hP hS hl => lv_idiv X.1 X.2.1 hd (fun q => h0 ((iI_eq hy (by omega)).mp (q.trans iI_0.symm))) (k H locs ls hP hS hl)
theorem g_iremT (X : CxT p s m args c A D cA ad own cc mx) {x y : Int} (hd : decode cc pc = .ok (.irem, 1)) (hx : i32 x) (hy : i32 y) (h0 : y ≠ 0) (k : WgT p l e R s m args below meth c A D cA ad cells slots G (pc + 1) lv (.int (iI (x.tmod y)) :: st) σ) : WgT p l e R s m args below meth c A D cA ad cells slots G pc lv (.int (iI y) :: .int (iI x) :: st) σ := by
  rw [← iI_rem hx hy] at k
  exact fun H locs ls hP hS hl => lv_irem X.1 X.2.1 hd (fun q => h0 ((iI_eq hy (by omega)).mp (q.trans iI_0.symm))) (k H locs ls hP hS hl)
theorem g_laddT (X : CxT p s m args c A D cA ad own cc mx) {x y : Int} (hd : decode cc pc = .ok (.ladd, 1)) (k : WgT p l e R s m args below meth c A D cA ad cells slots G (pc + 1) lv (.long (lI (x + y)) :: st) σ) : WgT p l e R s m args below meth c A D cA ad cells slots G pc lv (.long (lI y) :: .long (lI x) :: st) σ := by
  rw [← lI_add] at k
  exact fun H locs ls hP hS hl => lv_ladd X.1 X.2.1 hd (k H locs ls hP hS hl)
theorem g_lsubT (X : CxT p s m args c A D cA ad own cc mx) {x y : Int} (hd : decode cc pc = .ok (.lsub, 1)) (k : WgT p l e R s m args below meth c A D cA ad cells slots G (pc + 1) lv (.long (lI (x - y)) :: st) σ) : WgT p l e R s m args below meth c A D cA ad cells slots G pc lv (.long (lI y) :: .long (lI x) :: st) σ := by
  rw [← lI_sub] at k
  exact fun H locs ls hP hS hl => lv_lsub X.1 X.2.1 hd (k H locs ls hP hS hl)
theorem g_lmulT (X : CxT p s m args c A D cA ad own cc mx) {x y : Int} (hd : decode cc pc = .ok (.lmul, 1)) (k : WgT p l e R s m args below meth c A D cA ad cells slots G (pc + 1) lv (.long (lI (x * y)) :: st) σ) : WgT p l e R s m args below meth c A D cA ad cells slots G pc lv (.long (lI y) :: .long (lI x) :: st) σ := by
  rw [← lI_mul] at k
  exact fun H locs ls hP hS hl => lv_lmul X.1 X.2.1 hd (k H locs ls hP hS hl)
theorem g_i2lT (X : CxT p s m args c A D cA ad own cc mx) {x : Int} (hd : decode cc pc = .ok (.i2l, 1)) (hx : i32 x) (k : WgT p l e R s m args below meth c A D cA ad cells slots G (pc + 1) lv (.long (lI x) :: st) σ) : WgT p l e R s m args below meth c A D cA ad cells slots G pc lv (.int (iI x) :: st) σ := by
  rw [← iI_toL hx] at k
  exact fun H locs ls hP hS hl => lv_i2l X.1 X.2.1 hd rfl (k H locs ls hP hS hl)
theorem g_gotoT (X : CxT p s m args c A D cA ad own cc mx) {off : Int} {tgt : Nat} (hd : decode cc pc = .ok (.goto off, 3)) (ht : (pc : Int) + off = (tgt : Int)) (k : WgT p l e R s m args below meth c A D cA ad cells slots G tgt lv st σ) : WgT p l e R s m args below meth c A D cA ad cells slots G pc lv st σ :=
  fun H locs ls hP hS hl => lv_goto X.1 X.2.1 hd ht (k H locs ls hP hS hl)
end GR
section GB
variable {p : Program} {l : Launch} {e : Env} {R : Room} {s : State} {m : MethodId} {args : Array Value} {below : List Frame} {meth : Method} {c : Code} {A : Nat → Prop} {D : va_G} {cA : Nat → ClassId} {ad : Nat → Nat} {cells slots : Nat} {G : State → Prop} {own : String} {cc : ByteArray} {mx : Nat} {pc : Nat} {lv lv' : List (Nat × Value)} {st : List Value} {σ : ASt}
theorem g_icmp_geT (X : CxT p s m args c A D cA ad own cc mx) {x y : Int} {off : Int} {tgt : Nat} (hd : decode cc pc = .ok (.if_icmp .ge off, 3)) (ht : (pc : Int) + off = (tgt : Int)) (hx : i32 x) (hy : i32 y) (kt : y ≤ x → WgT p l e R s m args below meth c A D cA ad cells slots G tgt lv st σ) (kf : x < y → WgT p l e R s m args below meth c A D cA ad cells slots G (pc + 3) lv st σ) : WgT p l e R s m args below meth c A D cA ad cells slots G pc lv (.int (iI y) :: .int (iI x) :: st) σ :=
  fun H locs ls hP hS hl => lv_icmp_ge X.1 X.2.1 hd ht (fun q => kt ((iI_le hy hx).mp q) H locs ls hP hS hl) (fun q => kf (Int.not_le.mp fun z => q ((iI_le hy hx).mpr z)) H locs ls hP hS hl)
theorem g_if_ltT (X : CxT p s m args c A D cA ad own cc mx) {x : Int} {off : Int} {tgt : Nat} (hd : decode cc pc = .ok (.ifCond .lt off, 3)) (ht : (pc : Int) + off = (tgt : Int)) (hx : i32 x) (kt : x < 0 → WgT p l e R s m args below meth c A D cA ad cells slots G tgt lv st σ) (kf : 0 ≤ x → WgT p l e R s m args below meth c A D cA ad cells slots G (pc + 3) lv st σ) : WgT p l e R s m args below meth c A D cA ad cells slots G pc lv (.int (iI x) :: st) σ :=
  fun H locs ls hP hS hl => lv_if_lt X.1 X.2.1 hd ht (fun q => kt ((iI_lt hx i32z).mp q) H locs ls hP hS hl) (fun q => kf (Int.not_lt.mp fun z => q ((iI_lt hx i32z).mpr z)) H locs ls hP hS hl)
theorem g_lc_gtT (X : CxT p s m args c A D cA ad own cc mx) {x y : Int} {off : Int} {tgt : Nat} (hd1 : decode cc pc = .ok (.lcmp, 1)) (hd : decode cc (pc + 1) = .ok (.ifCond .gt off, 3)) (ht : ((pc + 1 : Nat) : Int) + off = (tgt : Int)) (hx : i64 x) (hy : i64 y) (kt : y < x → WgT p l e R s m args below meth c A D cA ad cells slots G tgt lv st σ) (kf : x ≤ y → WgT p l e R s m args below meth c A D cA ad cells slots G (pc + 4) lv st σ) : WgT p l e R s m args below meth c A D cA ad cells slots G pc lv (.long (lI y) :: .long (lI x) :: st) σ :=
  fun H locs ls hP hS hl => W.lcmp X.1 X.2.1 hd1 (lv_if_gt X.1 X.2.1 hd ht (fun q => kt ((lI_lt hy hx).mp ((lg_cmp_gt _ _).mp q)) H locs ls hP hS hl) (fun q => kf (Int.not_lt.mp fun z => q ((lg_cmp_gt _ _).mpr ((lI_lt hy hx).mpr z))) H locs ls hP hS hl))
end GB
section GH
variable {p : Program} {l : Launch} {e : Env} {R : Room} {s : State} {m : MethodId} {args : Array Value} {below : List Frame} {meth : Method} {c : Code} {A : Nat → Prop} {D : va_G} {cA : Nat → ClassId} {ad : Nat → Nat} {cells slots : Nat} {G : State → Prop} {own : String} {cc : ByteArray} {mx : Nat} {pc : Nat} {lv lv' : List (Nat × Value)} {st : List Value} {σ : ASt}
theorem g_getT (X : CxT p s m args c A D cA ad own cc mx) {index ci j n t id : Nat} (hd : decode cc pc = .ok (.getfield index, 3)) (hL : LkF own index ci j) (hs : shpT id = (0, ci, n)) (ht : (fty ci)[j]? = some t) {v : Value} (hv : entFT ad σ id j t = cv ad v) (k : WgT p l e R s m args below meth c A D cA ad cells slots G (pc + 3) lv (v :: st) σ) : WgT p l e R s m args below meth c A D cA ad cells slots G pc lv (.ref id :: st) σ := by
  obtain ⟨q, ty, hc, hj, hlk, hin, hty⟩ := hL
  intro H locs ls hP hS hl
  refine va_get (ci := ci) (fs := (fty ci).mapIdx (fun j t => entFT ad σ id j t)) X.1 X.2.1 X.2.2.1 hin X.2.2.2.1 X.2.2.2.2.1 hP id ?_ hc j hj (X.2.2.1 _ hlk) (fun _ h => h) (v := cv ad v) ?_ hd (k H locs ls hP hS hl)
  · rw [wl_getT cA ad σ (shp_ltT hs (by show 0 < 9; decide)), ent_0T hs]
  · rw [List.getElem?_mapIdx, ht, ← hv]; rfl
theorem g_getIT (X : CxT p s m args c A D cA ad own cc mx) {index ci j n id : Nat} {z : Int} (hd : decode cc pc = .ok (.getfield index, 3)) (hL : LkF own index ci j) (hs : shpT id = (0, ci, n)) (ht : (fty ci)[j]? = some 0) (hz : (j : Int) = z) (k : WgT p l e R s m args below meth c A D cA ad cells slots G (pc + 3) lv (.int (iI (gI σ id z)) :: st) σ) : WgT p l e R s m args below meth c A D cA ad cells slots G pc lv (.ref id :: st) σ := by
  subst hz
  exact g_getT X hd hL hs ht rfl k
theorem g_getFT (X : CxT p s m args c A D cA ad own cc mx) {index ci j n id f : Nat} (hd : decode cc pc = .ok (.getfield index, 3)) (hL : LkF own index ci j) (hs : shpT id = (0, ci, n)) (ht : (fty ci)[j]? = some 2) (hf : finT id j = f) (k : WgT p l e R s m args below meth c A D cA ad cells slots G (pc + 3) lv (.ref f :: st) σ) : WgT p l e R s m args below meth c A D cA ad cells slots G pc lv (.ref id :: st) σ := g_getT X hd hL hs ht (by subst hf; rfl) k
theorem ent_put0T {σ' : ASt} {id ci n j t : Nat} {v : Value} (hs : shpT id = (0, ci, n)) (ht : (fty ci)[j]? = some t) (hv : entFT ad σ' id j t = v) (ho : ∀ i u, i ≠ j → entFT ad σ' id i u = entFT ad σ id i u) : entT cA ad σ' id = .inr (ci, ((fty ci).mapIdx (fun j t => entFT ad σ id j t)).set j v) := by
  rw [ent_0T hs]
  congr 2
  apply List.ext_getElem?
  intro i
  have hlt := (List.getElem?_eq_some_iff.mp ht).1
  by_cases hi : i = j
  · subst hi
    rw [List.getElem?_mapIdx, ht, List.getElem?_set_self (by simpa using hlt), ← hv]; rfl
  · rw [List.getElem?_set_ne (fun q => hi q.symm), List.getElem?_mapIdx, List.getElem?_mapIdx]
    cases (fty ci)[i]? with
    | none => rfl
    | some u => exact congrArg some (ho i u hi)
theorem g_putT (X : CxT p s m args c A D cA ad own cc mx) {index ci j n t id : Nat} {ty : FieldType} {v : Value} {σ' : ASt} (hd : decode cc pc = .ok (.putfield index, 3)) (hL : LkP own index ci j ty) (hs : shpT id = (0, ci, n)) (ht : (fty ci)[j]? = some t) (hn : narrow ty (cv ad v) = cv ad v) (hfit : fits ty (cv ad v) = true) (hv : entFT ad σ' id j t = cv ad v) (ho : ∀ i u, i ≠ j → entFT ad σ' id i u = entFT ad σ id i u) (ho2 : ∀ b, b ≠ id → entT cA ad σ' b = entT cA ad σ b) (k : WgT p l e R s m args below meth c A D cA ad cells slots G (pc + 3) lv st σ') : WgT p l e R s m args below meth c A D cA ad cells slots G pc lv (v :: .ref id :: st) σ := by
  obtain ⟨q, ty0, hc, hj, hlk, hin, hty, hty0, hnm, hfin⟩ := hL
  intro H locs ls hP hS hl
  have hid := shp_ltT hs (by show 0 < 9; decide)
  have hw : (wlT cA ad σ).set id (ad id, .inr (ci, ((fty ci).mapIdx (fun j t => entFT ad σ id j t)).set j (cv ad v))) = wlT cA ad σ' := wl_setT cA ad σ σ' hid (ent_put0T hs ht hv ho) ho2
  refine va_put (ci := ci) (fs := (fty ci).mapIdx (fun j t => entFT ad σ id j t)) X.1 X.2.1 X.2.2.1 hin ty0 hty0 hnm X.2.2.2.1 X.2.2.2.2.1 hP (wl_DT X.2.2.2.2.2.1 X.2.2.2.2.2.2.1) hS id ?_ hc j hj (X.2.2.1 _ hlk) (fun _ h => h) hfin hty hn hfit ?_ hd (fun H1 locs1 hP1 _ hS1 => ?_)
  · rw [wl_getT cA ad σ hid, ent_0T hs]
  · have := (List.getElem?_eq_some_iff.mp ht).1
    simpa using this
  · rw [hw] at hP1
    exact k H1 locs1 ls hP1 hS1 hl
theorem g_putIT (X : CxT p s m args c A D cA ad own cc mx) {index ci j n id : Nat} {x z : Int} (hd : decode cc pc = .ok (.putfield index, 3)) (hL : LkP own index ci j .int) (hs : shpT id = (0, ci, n)) (ht : (fty ci)[j]? = some 0) (hz : (j : Int) = z) (k : WgT p l e R s m args below meth c A D cA ad cells slots G (pc + 3) lv st (sI σ id z x)) : WgT p l e R s m args below meth c A D cA ad cells slots G pc lv (.int (iI x) :: .ref id :: st) σ := by
  subst hz
  refine g_putT X (σ' := sI σ id (j : Int) x) hd hL hs ht rfl rfl ?_ ?_ ?_ k
  · show Value.int (iI _) = Value.int (iI x)
    rw [show (sI σ id (j : Int) x).1 id (j : Int) = x from if_pos ⟨rfl, rfl⟩]
  · intro i u hi
    unfold entFT
    rw [show (sI σ id (j : Int) x).1 id (i : Int) = σ.1 id (i : Int) from if_neg (fun q => hi (by omega))]
    rfl
  · exact ent_otherT (fun b hb => by funext i; exact if_neg (fun q => hb q.1)) (fun _ _ => rfl) (fun _ _ => rfl)
theorem g_putLT (X : CxT p s m args c A D cA ad own cc mx) {index ci j n id : Nat} {x z : Int} (hd : decode cc pc = .ok (.putfield index, 3)) (hL : LkP own index ci j .long) (hs : shpT id = (0, ci, n)) (ht : (fty ci)[j]? = some 1) (hz : (j : Int) = z) (k : WgT p l e R s m args below meth c A D cA ad cells slots G (pc + 3) lv st (sL σ id z x)) : WgT p l e R s m args below meth c A D cA ad cells slots G pc lv (.long (lI x) :: .ref id :: st) σ := by
  subst hz
  refine g_putT X (σ' := sL σ id (j : Int) x) hd hL hs ht rfl rfl ?_ ?_ ?_ k
  · show Value.long (lI _) = Value.long (lI x)
    rw [show (sL σ id (j : Int) x).2.1 id (j : Int) = x from if_pos ⟨rfl, rfl⟩]
  · intro i u hi
    unfold entFT
    rw [show (sL σ id (j : Int) x).2.1 id (i : Int) = σ.2.1 id (i : Int) from if_neg (fun q => hi (by omega))]
    rfl
  · exact ent_otherT (fun _ _ => rfl) (fun b hb => by funext i; exact if_neg (fun q => hb q.1)) (fun _ _ => rfl)
theorem g_alen1T (X : CxT p s m args c A D cA ad own cc mx) {n x id : Nat} {z : Int} (hd : decode cc pc = .ok (.arraylength, 1)) (hs : shpT id = (1, x, n)) (hz : (n : Int) = z) (k : WgT p l e R s m args below meth c A D cA ad cells slots G (pc + 1) lv (.int (iI z) :: st) σ) : WgT p l e R s m args below meth c A D cA ad cells slots G pc lv (.ref id :: st) σ :=
  fun H locs ls hP hS hl => va_alen X.1 X.2.1 X.2.2.2.2.1 hP id 0 (by rw [wl_getT cA ad σ (shp_ltT hs (by show 1 < 9; decide)), ent_1T hs]) rfl (by rw [← hz]; exact iI_nat n) hd (k H locs ls hP hS hl)
theorem g_alen2T (X : CxT p s m args c A D cA ad own cc mx) {n x id : Nat} {z : Int} (hd : decode cc pc = .ok (.arraylength, 1)) (hs : shpT id = (2, x, n)) (hz : (n : Int) = z) (k : WgT p l e R s m args below meth c A D cA ad cells slots G (pc + 1) lv (.int (iI z) :: st) σ) : WgT p l e R s m args below meth c A D cA ad cells slots G pc lv (.ref id :: st) σ :=
  fun H locs ls hP hS hl => va_alen X.1 X.2.1 X.2.2.2.2.1 hP id 1 (by rw [wl_getT cA ad σ (shp_ltT hs (by show 2 < 9; decide)), ent_2T hs]) rfl (by rw [← hz]; exact iI_nat n) hd (k H locs ls hP hS hl)
theorem shp_lenT {id : Nat} {q : Nat × Nat × Nat} (h : shpT id = q) : q.2.2 < 2147483648 := by
  subst h
  unfold shpT
  rw [List.getD_eq_getElem?_getD]
  cases hq : shpLT[id]? with
  | none => decide
  | some r =>
    have h1 : ∀ r ∈ shpLT, r.2.2 < 2147483648 := by decide +kernel
    exact h1 r (List.mem_of_getElem? hq)
theorem g_ialdT (X : CxT p s m args c A D cA ad own cc mx) {n x id : Nat} {i : Int} (hd : decode cc pc = .ok (.iaload, 1)) (hs : shpT id = (1, x, n)) (h0 : 0 ≤ i) (hi : i < (n : Int)) (k : WgT p l e R s m args below meth c A D cA ad cells slots G (pc + 1) lv (.int (iI (gI σ id i)) :: st) σ) : WgT p l e R s m args below meth c A D cA ad cells slots G pc lv (.int (iI i) :: .ref id :: st) σ := by
  intro H locs ls hP hS hl
  have hr := ix32 h0 hi (shp_lenT hs)
  refine va_iald X.1 X.2.1 X.2.2.2.2.1 hP id 0 (f := fun j => iI (σ.1 id (j : Int))) (by rw [wl_getT cA ad σ (shp_ltT hs (by show 1 < 9; decide)), ent_1T hs]) rfl (iI_in h0 hi hr) hd ?_
  rw [iI_clamp hr, Int.toNat_of_nonneg h0]
  exact k H locs ls hP hS hl
theorem g_iastT (X : CxT p s m args c A D cA ad own cc mx) {n x id : Nat} {i v : Int} (hd : decode cc pc = .ok (.iastore, 1)) (hs : shpT id = (1, x, n)) (h0 : 0 ≤ i) (hi : i < (n : Int)) (k : WgT p l e R s m args below meth c A D cA ad cells slots G (pc + 1) lv st (sI σ id i v)) : WgT p l e R s m args below meth c A D cA ad cells slots G pc lv (.int (iI v) :: .int (iI i) :: .ref id :: st) σ := by
  intro H locs ls hP hS hl
  have hr := ix32 h0 hi (shp_lenT hs)
  have hid := shp_ltT hs (by show 1 < 9; decide)
  refine va_iast X.1 X.2.1 X.2.2.2.2.1 hP (wl_DT X.2.2.2.2.2.1 X.2.2.2.2.2.2.1) hS id 0 (f := fun j => iI (σ.1 id (j : Int))) (by rw [wl_getT cA ad σ hid, ent_1T hs]) rfl (iI_in h0 hi hr) hd (fun H1 locs1 hP1 _ hS1 => ?_)
  rw [iI_clamp hr, upd_iI σ id i v h0, wl_setT cA ad σ (sI σ id i v) hid (by rw [ent_1T hs]) (ent_otherT (fun b hb => by funext i; exact if_neg (fun q => hb q.1)) (fun _ _ => rfl) (fun _ _ => rfl))] at hP1
  exact k H1 locs1 ls hP1 hS1 hl
theorem g_lastT (X : CxT p s m args c A D cA ad own cc mx) {n x id : Nat} {i v : Int} (hd : decode cc pc = .ok (.lastore, 1)) (hs : shpT id = (2, x, n)) (h0 : 0 ≤ i) (hi : i < (n : Int)) (k : WgT p l e R s m args below meth c A D cA ad cells slots G (pc + 1) lv st (sL σ id i v)) : WgT p l e R s m args below meth c A D cA ad cells slots G pc lv (.long (lI v) :: .int (iI i) :: .ref id :: st) σ := by
  intro H locs ls hP hS hl
  have hr := ix32 h0 hi (shp_lenT hs)
  have hid := shp_ltT hs (by show 2 < 9; decide)
  refine va_last X.1 X.2.1 X.2.2.2.2.1 hP (wl_DT X.2.2.2.2.2.1 X.2.2.2.2.2.2.1) hS id 1 (f := fun j => lI (σ.2.1 id (j : Int))) (by rw [wl_getT cA ad σ hid, ent_2T hs]) rfl (iI_in h0 hi hr) hd (fun H1 locs1 hP1 _ hS1 => ?_)
  rw [iI_clamp hr, upd_lI σ id i v h0, wl_setT cA ad σ (sL σ id i v) hid (by rw [ent_2T hs]) (ent_otherT (fun _ _ => rfl) (fun b hb => by funext i; exact if_neg (fun q => hb q.1)) (fun _ _ => rfl))] at hP1
  exact k H1 locs1 ls hP1 hS1 hl
end GH
section GC
variable {p : Program} {l : Launch} {e : Env} {R : Room} {s : State} {m : MethodId} {args : Array Value} {below : List Frame} {meth : Method} {c : Code} {A : Nat → Prop} {D : va_G} {cA : Nat → ClassId} {ad : Nat → Nat} {cells slots : Nat} {G : State → Prop} {own : String} {cc : ByteArray} {mx : Nat} {pc : Nat} {lv lv' : List (Nat × Value)} {st : List Value} {σ : ASt}
theorem g_mminT (X : CxT p s m args c A D cA ad own cc mx) {index : Nat} {x y : Int} (hd : decode cc pc = .ok (.invokestatic index, 3)) (hL : LkM own index Lib.Math.min.name Lib.Math.min.code 2 .int) (hfr : 1 ≤ R.frames) (hlo : (st.map fun v => v.category).sum + 13 ≤ R.locals) (hc : cells ≤ R.cells ∧ slots ≤ R.slots) (hx : i32 x) (hy : i32 y) (k : WgT p l e R s m args below meth c A D cA ad cells slots G (pc + 3) lv (.int (iI (if y < x then y else x)) :: st) σ) : WgT p l e R s m args below meth c A D cA ad cells slots G pc lv (.int (iI y) :: .int (iI x) :: st) σ := by
  intro H locs ls hP hS hl
  refine va_mmin X.1 X.2.1 hl.1.symm X.2.2.2.1 (X.2.2.1 _ hL.1) (X.2.2.1 _ hL.2.1) (X.2.2.1 _ hL.2.2.1) (X.2.2.1 _ hL.2.2.2) hfr (by rw [cv_sum]; exact hlo) hc.1 hc.2 hd ?_
  have e : (if iI y < iI x then iI y else iI x) = iI (if y < x then y else x) := by
    by_cases h : y < x
    · rw [if_pos h, if_pos ((iI_lt hy hx).mpr h)]
    · rw [if_neg h, if_neg (fun q => h ((iI_lt hy hx).mp q))]
  rw [e]
  exact k H locs ls hP hS hl
theorem g_mmaxT (X : CxT p s m args c A D cA ad own cc mx) {index : Nat} {x y : Int} (hd : decode cc pc = .ok (.invokestatic index, 3)) (hL : LkM own index Lib.Math.max.name Lib.Math.max.code 2 .int) (hfr : 1 ≤ R.frames) (hlo : (st.map fun v => v.category).sum + 13 ≤ R.locals) (hc : cells ≤ R.cells ∧ slots ≤ R.slots) (hx : i32 x) (hy : i32 y) (k : WgT p l e R s m args below meth c A D cA ad cells slots G (pc + 3) lv (.int (iI (if x < y then y else x)) :: st) σ) : WgT p l e R s m args below meth c A D cA ad cells slots G pc lv (.int (iI y) :: .int (iI x) :: st) σ := by
  intro H locs ls hP hS hl
  refine va_mmax X.1 X.2.1 hl.1.symm X.2.2.2.1 (X.2.2.1 _ hL.1) (X.2.2.1 _ hL.2.1) (X.2.2.1 _ hL.2.2.1) (X.2.2.1 _ hL.2.2.2) hfr (by rw [cv_sum]; exact hlo) hc.1 hc.2 hd ?_
  have e : (if iI x < iI y then iI y else iI x) = iI (if x < y then y else x) := by
    by_cases h : x < y
    · rw [if_pos h, if_pos ((iI_lt hx hy).mpr h)]
    · rw [if_neg h, if_neg (fun q => h ((iI_lt hx hy).mp q))]
  rw [e]
  exact k H locs ls hP hS hl
end GC
def QxT (Q : Option Value → ASt → Prop) (D : va_G) (cA : Nat → ClassId) (ad : Nat → Nat) : Array Value → State → Outcome → State → Prop := fun _ st oc t =>
  (∃ (r : Option Value) (σ' : ASt), oc = .returned (r.map (cv ad)) ∧ Q r σ' ∧ va_P D vwCl (wlT cA ad σ') t.heap) ∧ va_F (adAT ad) st t
def PcST (D : va_G) (cA : Nat → ClassId) (ad : Nat → Nat) (σ : ASt) (U : State) : Prop := va_P D vwCl (wlT cA ad σ) U.heap ∧ va_K D vwCl (tyL cA) U ∧ Nst U
def EvT (K : MK) (av : List Value) (σ : ASt) (Q : Option Value → ASt → Prop) : Prop :=
  ∀ (l : Launch) (D : va_G) (cA : Nat → ClassId) (ad : Nat → Nat), adInjT ad → Met l K.1 (wsK K) K.2.2.2.2 (va_Pc (av.map (cv ad)) (PcST D cA ad σ)) (QxT Q D cA ad) 0 0 (adAT ad)
def WxT (K : MK) (Q : Option Value → ASt → Prop) (pc : Nat) (lv : List (Nat × Value)) (st : List Value) (σ : ASt) : Prop :=
  ∀ (p : Program) (l : Launch) (e : Env) (s : State) (m : MethodId) (args : Array Value) (below : List Frame) (meth : Method) (c : Code) (D : va_G) (cA : Nat → ClassId) (ad : Nat → Nat), CxT p s m args c (adAT ad) D cA ad K.1.cls K.2.1 K.2.2.1 → meth.sig.returnType = K.2.2.2.1 → meth.locks = false →
    WgT p l e K.2.2.2.2 s m args below meth c (adAT ad) D cA ad 0 0 (MQ below (QxT Q D cA ad) args s 0 0 (adAT ad)) pc lv st σ
theorem EvT.of {K : MK} {av : List Value} {σ : ASt} {Q : Option Value → ASt → Prop} {lv : List (Nat × Value)} (hy : plainName K.1.cls = true) (hn : (lg_sl av).length ≤ K.2.2.1) (hlv : lv_args 0 av = lv) (k : WxT K Q 0 lv [] σ) : EvT K av σ Q := by
  intro l D cA ad hinj
  refine Met.ofW (cc := K.2.1) (maxL := K.2.2.1) (ret := K.2.2.2.1) (ws' := allW) hy rfl ?_
  intro p e s m args below meth c s₁ B hml hv
  obtain ⟨rfl, hP, hK, hN⟩ := hv
  have hts := atoms_spec (ws := wsK K) B.pre
  have hX : CxT p s m (av.map (cv ad)).toArray c (adAT ad) D cA ad K.1.cls K.2.1 K.2.2.1 := ⟨B.exec, B.bytes, fun w hw => hts w (List.mem_cons_of_mem _ hw), findClass_of_methodNamed B.named, hK, hinj, fun i hi => ⟨i, hi, rfl⟩, hml, hN⟩
  have hl := lv_entry (av.map (cv ad)) (n := K.2.2.1) (by rw [lg_sl_cv]; exact hn)
  rw [lg_entry_eq]
  rw [lv_args_cv, hlv, ← hml] at hl
  rw [← hml]
  exact k p l e s m _ below meth c D cA ad hX B.returns B.notSynchronized s.heap [] _ hP va_S.rf hl
theorem PcS_blindT {D : va_G} {cA : Nat → ClassId} {ad : Nat → Nat} {σ : ASt} {av : List Value} : FrameBlind (va_Pc av (PcST D cA ad σ)) := fun a U g mk q => by
  obtain ⟨h1, h2, h3, h4⟩ := q
  exact ⟨h1, h2, va_K.moved (u := U) (U := U.calling g mk a) (Vm.Alike.refl U.vm) h3, Nst.same rfl h4⟩
section GD
variable {p : Program} {l : Launch} {e : Env} {R : Room} {s : State} {m : MethodId} {args : Array Value} {below : List Frame} {meth : Method} {c : Code} {A : Nat → Prop} {D : va_G} {cA : Nat → ClassId} {ad : Nat → Nat} {cells slots : Nat} {G : State → Prop} {own : String} {cc : ByteArray} {mx : Nat} {pc : Nat} {lv lv' : List (Nat × Value)} {st : List Value} {σ : ASt}
theorem g_runT {K : MK} {Q' : Option Value → ASt → Prop} {a : Array Value} {rest : List Value} {st0 : List Value} (hA : ∀ q, adAT ad q → A q)
    (hrun : ∀ (H : Heap) (locs : List Loc) (ls : Array Slot), va_P D vwCl (wlT cA ad σ) H → lv_has ls c.maxLocals (lv.map (cvp ad)) → va_Run p l e R s m args below meth c H locs cells slots 0 0 (F0 m pc ls (st0.map (cv ad))) (rest.map (cv ad)) (QxT Q' D cA ad a) (adAT ad))
    (kk : ∀ (r : Option Value) (σ' : ASt), Q' r σ' → WgT p l e R s m args below meth c A D cA ad cells slots G (pc + 3) lv (r.toList ++ rest) σ') : WgT p l e R s m args below meth c A D cA ad cells slots G pc lv st0 σ := by
  intro H locs ls hP hS hl T hT X
  obtain ⟨v, st₀, t, T', L, h0, X', hL, e1, e2, ⟨⟨r, σ', hv, hq, hP1⟩, hz, hk⟩, stp⟩ := hrun H locs ls hP hl T hT X
  cases hv
  rw [h0] at hz hk
  rw [← e1] at hz hk hP1
  have hS1 : va_S A s.heap T'.heap (locs ++ L) := ⟨Nat.le_trans hS.1 hz, fun q h1 h2 => by rw [hk q (Nat.lt_of_lt_of_le h1 hS.1) (fun z => h2 (hA q z))]; exact hS.2.1 q h1 h2, fun q hq => by
    rcases List.mem_append.mp hq with h | h
    · exact hS.2.2 q h
    · exact hA _ (hL q h)⟩
  obtain ⟨t2, a1, b1⟩ := kk r σ' hq T'.heap (locs ++ L) ls hP1 hS1 hl T' rfl X'
  refine ⟨t2, stp t2 ?_, b1⟩
  have e3 : (r.map (cv ad)).toList ++ rest.map (cv ad) = (r.toList ++ rest).map (cv ad) := by cases r <;> simp
  show Steps p.tables e below (T'.setTop (F0 m (pc + 3) ls ((r.map (cv ad)).toList ++ rest.map (cv ad)))) t2
  rw [e3]
  exact a1
theorem g_callVT (X : CxT p s m args c A D cA ad own cc mx) {K : MK} {Q' : Option Value → ASt → Prop} {index n ci id x : Nat} (As rest : List Value) (hd : decode cc pc = .ok (.invokevirtual index, 3)) (hL : LkV index n own K) (hR : RmOk R K) (hcs : cells ≤ R.cells ∧ slots ≤ R.slots) (hA : ∀ q, adAT ad q → A q) (hs : shpT id = (0, ci, x)) (hcl : (vwCl[ci]?).map (fun q => q.1) = some K.1.cls) (hn : As.length = n) (hst : (rest.map fun v => v.category).sum ≤ 8) (he : EvT K (.ref id :: As) σ Q')
    (kk : ∀ (r : Option Value) (σ' : ASt), Q' r σ' → WgT p l e R s m args below meth c A D cA ad cells slots G (pc + 3) lv (r.toList ++ rest) σ') : WgT p l e R s m args below meth c A D cA ad cells slots G pc lv (As.reverse ++ .ref id :: rest) σ := by
  obtain ⟨⟨hl1, hl2, hl3, hm1, hm2, hm3⟩, hi, hse⟩ := hL
  obtain ⟨hr1, hr2, hr3, hr4⟩ := hR
  refine g_runT (K := K) (a := (Value.ref (ad id) :: As.map (cv ad)).toArray) hA (fun H locs ls hP hl => ?_) kk
  obtain ⟨q, hq, hqc⟩ : ∃ q, vwCl[ci]? = some q ∧ q.1 = K.1.cls := by
    cases hz : vwCl[ci]? with
    | none => rw [hz] at hcl; cases hcl
    | some q => rw [hz] at hcl; exact ⟨q, rfl, Option.some.inj hcl⟩
  have hid := shp_ltT hs (by show 0 < 9; decide)
  have hrecv := va_recv (q0 := id) (ci := ci) (a := ad id) X.2.2.2.2.1 hP hq (fs := (fty ci).mapIdx (fun j t => entFT ad σ id j t)) (by rw [wl_getT cA ad σ hid, ent_0T hs])
  rw [hqc] at hrecv
  have hst' : List.map (cv ad) (As.reverse ++ .ref id :: rest) = (As.map (cv ad)).reverse ++ .ref (ad id) :: rest.map (cv ad) := by
    rw [List.map_append, List.map_reverse]; rfl
  rw [hst']
  exact va_runV (C := K.1.cls) (As := As.map (cv ad)) (rest := rest.map (cv ad)) (n := n) (bytes := K.2.1) (maxL := K.2.2.1) (ret := K.2.2.2.1) (nL := mx) ⟨X.1, X.2.1, X.2.2.2.2.2.2.2.1, X.2.2.2.1, X.2.2.1⟩ (he l D cA ad X.2.2.2.2.2.1)
    ⟨callB_of (ws' := allW) n X.2.2.1 (wsK_good hl3) rfl hr1 hr2 (X.2.2.1 _ hl2) (X.2.2.1 _ hl1) ⟨hm1, hm2, hm3⟩ ⟨hr3, hr4⟩, X.2.2.1 _ hi, X.2.2.1 _ hse⟩
    ⟨PcS_blindT, hrecv, fun U hU hW => ⟨rfl, by rw [hU]; exact hP, va_K.moved hW.alike X.2.2.2.2.1, Nst.warm hW X.2.2.2.2.2.2.2.2⟩⟩ rfl (by rw [List.length_map]; exact hn) (hl.1.trans X.2.2.2.2.2.2.2.1) rfl (lv_room (by rw [cv_sum]; exact hst)) hd ⟨hcs.1, hcs.2⟩
end GD
def EvVT (K : MK) (av : List Value) (σ : ASt) (Q : ASt → Prop) : Prop := EvT K av σ (QV Q)
section GE
variable {p : Program} {l : Launch} {e : Env} {R : Room} {s : State} {m : MethodId} {args : Array Value} {below : List Frame} {meth : Method} {c : Code} {A : Nat → Prop} {D : va_G} {cA : Nat → ClassId} {ad : Nat → Nat} {cells slots : Nat} {G : State → Prop} {own : String} {cc : ByteArray} {mx : Nat} {pc : Nat} {lv lv' : List (Nat × Value)} {st st0 : List Value} {σ : ASt}
theorem g_vretT {Q : Option Value → ASt → Prop} (X : CxT p s m args c (adAT ad) D cA ad own cc mx) (hr : meth.sig.returnType = none) (hlk : meth.locks = false) (hd : decode cc pc = .ok (.return_, 1)) (hq : Q none σ) : WgT p l e R s m args below meth c (adAT ad) D cA ad 0 0 (MQ below (QxT Q D cA ad) args s 0 0 (adAT ad)) pc lv [] σ :=
  fun H locs ls hP hS _ => W.vret X.1 X.2.1 hr (fun t ht _ => ⟨⟨none, σ, rfl, hq, by rw [ht]; exact hP⟩, hS.F ht⟩) hS.2.2 hd hlk
theorem g_cVVT (X : CxT p s m args c A D cA ad own cc mx) {K : MK} {Q1 : ASt → Prop} {index n ci id x : Nat} (As rest : List Value) (hd : decode cc pc = .ok (.invokevirtual index, 3)) (hL : LkV index n own K) (hR : RmOk R K) (hcs : cells ≤ R.cells ∧ slots ≤ R.slots) (hA : ∀ q, adAT ad q → A q) (hs : shpT id = (0, ci, x)) (hcl : (vwCl[ci]?).map (fun q => q.1) = some K.1.cls) (hn : As.length = n) (hst : (rest.map fun v => v.category).sum ≤ 8) (hk : st0 = As.reverse ++ .ref id :: rest) (he : EvVT K (.ref id :: As) σ Q1) (kk : ∀ (σ1 : ASt), Q1 σ1 → WgT p l e R s m args below meth c A D cA ad cells slots G (pc + 3) lv rest σ1) : WgT p l e R s m args below meth c A D cA ad cells slots G pc lv st0 σ := by
  subst hk
  exact g_callVT X As rest hd hL hR hcs hA hs hcl hn hst he (fun r σ1 hq => by obtain ⟨rfl, h2⟩ := hq; exact kk σ1 h2)
end GE
theorem adA_idT {ad : Nat → Nat} : ∀ q, adAT ad q → adAT ad q := fun _ h => h
theorem fn_0_1T {b : Nat} (h : shpT b = (0, 0, 0)) : finT b 1 = b + 1 :=
  have key : ∀ b, b < 3 → shpT b = (0, 0, 0) → finT b 1 = b + 1 := by decide +kernel
  key b (shp_ltT h (by decide)) h
theorem sf_0_1T {b : Nat} (h : shpT b = (0, 0, 0)) : shpT (b + 1) = (1, 0, 43) :=
  have key : ∀ b, b < 3 → shpT b = (0, 0, 0) → shpT (b + 1) = (1, 0, 43) := by decide +kernel
  key b (shp_ltT h (by decide)) h
theorem fn_0_2T {b : Nat} (h : shpT b = (0, 0, 0)) : finT b 2 = b + 2 :=
  have key : ∀ b, b < 3 → shpT b = (0, 0, 0) → finT b 2 = b + 2 := by decide +kernel
  key b (shp_ltT h (by decide)) h
theorem sf_0_2T {b : Nat} (h : shpT b = (0, 0, 0)) : shpT (b + 2) = (2, 0, 43) :=
  have key : ∀ b, b < 3 → shpT b = (0, 0, 0) → shpT (b + 2) = (2, 0, 43) := by decide +kernel
  key b (shp_ltT h (by decide)) h
theorem bX0_makeWorths_0T {a0 : Nat} {σ : ASt} {Q : ASt → Prop} (ha0 : shpT a0 = (0, 0, 0)) (h : WxT K_X0_makeWorths (QV Q) 7 [(0, .ref a0), (1, .long (lI 1)), (3, .long (lI 1)), (5, .int (iI 0))] [] σ) : WxT K_X0_makeWorths (QV Q) 0 [(0, .ref a0)] [] σ := by
  intro p l e s m args below meth c D cA ad X0 hr hlk
  have X : CxT p s m args c (adAT ad) D cA ad RX0 cX0_makeWorths 8 := X0
  refine g_lconstT X (z := 1) dX0_makeWorths_0 (by decide +kernel) ?_
  refine g_lstore_nT X (lv' := [(1, .long (lI 1)), (0, .ref a0)]) dX0_makeWorths_1 (by decide) rfl ?_
  refine g_lconstT X (z := 1) dX0_makeWorths_2 (by decide +kernel) ?_
  refine g_lstore_nT X (lv' := [(3, .long (lI 1)), (1, .long (lI 1)), (0, .ref a0)]) dX0_makeWorths_3 (by decide) rfl ?_
  refine g_iconstT X dX0_makeWorths_4 ?_
  refine g_istoreT X (lv' := [(5, .int (iI 0)), (3, .long (lI 1)), (1, .long (lI 1)), (0, .ref a0)]) dX0_makeWorths_5 (by decide) rfl ?_
  exact g_subT (lv' := [(0, .ref a0), (1, .long (lI 1)), (3, .long (lI 1)), (5, .int (iI 0))]) [3, 2, 1, 0] rfl (h p l e s m args below meth c D cA ad X0 hr hlk)
theorem eX0_makeWorthsT {a0 : Nat} {σ : ASt} {Q : ASt → Prop} (ha0 : shpT a0 = (0, 0, 0)) (h : WxT K_X0_makeWorths (QV Q) 7 [(0, .ref a0), (1, .long (lI 1)), (3, .long (lI 1)), (5, .int (iI 0))] [] σ) : EvVT K_X0_makeWorths [.ref a0] σ Q := EvT.of rfl (Nat.le_of_ble_eq_true rfl) rfl (bX0_makeWorths_0T ha0 h)
theorem bX0_makeWorths_7T {a0 : Nat} {v1 : Int} {v3 : Int} {v5 : Int} {σ : ASt} {Q : ASt → Prop} (ha0 : shpT a0 = (0, 0, 0)) (h32v5 : i32 v5) (h64v3 : i64 v3) (h : ((43 ≤ v5 → Q (sL σ a0 5 (v3 - 1))) ∧ (v5 < 43 → ((1000000000 < v3 → Q (sL σ a0 5 (v3 - 1))) ∧ (v3 ≤ 1000000000 → ((0 : Int) ≤ v5 ∧ v5 < 43) ∧ i32 ((gI (sI (sL σ (a0 + 2) v5 v3) a0 4 (v5 + 1)) (a0 + 1) v5)) ∧ WxT K_X0_makeWorths (QV Q) 7 [(0, .ref a0), (1, .long (lI v3)), (3, .long (lI (((gI (sI (sL σ (a0 + 2) v5 v3) a0 4 (v5 + 1)) (a0 + 1) v5) * v3) + v1))), (5, .int (iI (v5 + 1)))] [] (sI (sL σ (a0 + 2) v5 v3) a0 4 (v5 + 1))))))) : WxT K_X0_makeWorths (QV Q) 7 [(0, .ref a0), (1, .long (lI v1)), (3, .long (lI v3)), (5, .int (iI v5))] [] σ := by
  intro p l e s m args below meth c D cA ad X0 hr hlk
  have X : CxT p s m args c (adAT ad) D cA ad RX0 cX0_makeWorths 8 := X0
  refine g_iloadT X 3 dX0_makeWorths_7 rfl ?_
  refine g_aload_nT X 0 dX0_makeWorths_9 rfl ?_
  refine g_getFT X (f := (a0 + 2)) dX0_makeWorths_10 lf_X0_15 ha0 rfl (fn_0_2T ha0) ?_
  refine g_alen2T X (z := 43) dX0_makeWorths_13 (sf_0_2T ha0) rfl ?_
  refine g_icmp_geT X (tgt := 66) dX0_makeWorths_14 (by decide) h32v5 (by omega) (fun c1 => ?_) (fun c1 => ?_)
  · have h := h.1 c1
    refine g_aload_nT X 0 dX0_makeWorths_66 rfl ?_
    refine g_lload_nT X 2 dX0_makeWorths_67 rfl ?_
    refine g_lconstT X (z := 1) dX0_makeWorths_68 (by decide +kernel) ?_
    refine g_lsubT X dX0_makeWorths_69 ?_
    refine g_putLT X (j := 5) (z := 5) dX0_makeWorths_70 lp_X0_51 ha0 rfl rfl ?_
    exact g_vretT X hr hlk dX0_makeWorths_73 ⟨rfl, h⟩
  · have h := h.2 c1
    refine g_lload_nT X 2 dX0_makeWorths_17 rfl ?_
    refine g_ldc2T X (z := 1000000000) dX0_makeWorths_18 lc_X0_46 (by decide +kernel) ?_
    refine g_lc_gtT X (tgt := 66) dX0_makeWorths_21 dX0_makeWorths_22 (by decide) h64v3 (by omega) (fun c2 => ?_) (fun c2 => ?_)
    · have h := h.1 c2
      refine g_aload_nT X 0 dX0_makeWorths_66 rfl ?_
      refine g_lload_nT X 2 dX0_makeWorths_67 rfl ?_
      refine g_lconstT X (z := 1) dX0_makeWorths_68 (by decide +kernel) ?_
      refine g_lsubT X dX0_makeWorths_69 ?_
      refine g_putLT X (j := 5) (z := 5) dX0_makeWorths_70 lp_X0_51 ha0 rfl rfl ?_
      exact g_vretT X hr hlk dX0_makeWorths_73 ⟨rfl, h⟩
    · have h := h.2 c2
      refine g_aload_nT X 0 dX0_makeWorths_25 rfl ?_
      refine g_getFT X (f := (a0 + 2)) dX0_makeWorths_26 lf_X0_15 ha0 rfl (fn_0_2T ha0) ?_
      refine g_iloadT X 3 dX0_makeWorths_29 rfl ?_
      refine g_lload_nT X 2 dX0_makeWorths_31 rfl ?_
      obtain ⟨q3, h⟩ := h
      refine g_lastT X dX0_makeWorths_32 (sf_0_2T ha0) q3.1 q3.2 ?_
      refine g_aload_nT X 0 dX0_makeWorths_33 rfl ?_
      refine g_iloadT X 3 dX0_makeWorths_34 rfl ?_
      refine g_iconstT X dX0_makeWorths_36 ?_
      refine g_iaddT X dX0_makeWorths_37 ?_
      refine g_putIT X (j := 4) (z := 4) dX0_makeWorths_38 lp_X0_48 ha0 rfl rfl ?_
      refine g_aload_nT X 0 dX0_makeWorths_41 rfl ?_
      refine g_getFT X (f := (a0 + 1)) dX0_makeWorths_42 lf_X0_9 ha0 rfl (fn_0_1T ha0) ?_
      refine g_iloadT X 3 dX0_makeWorths_45 rfl ?_
      refine g_ialdT X dX0_makeWorths_47 (sf_0_1T ha0) q3.1 q3.2 ?_
      obtain ⟨q4, h⟩ := h
      refine g_i2lT X dX0_makeWorths_48 q4 ?_
      refine g_lload_nT X 2 dX0_makeWorths_49 rfl ?_
      refine g_lmulT X dX0_makeWorths_50 ?_
      refine g_lload_nT X 1 dX0_makeWorths_51 rfl ?_
      refine g_laddT X dX0_makeWorths_52 ?_
      refine g_lstoreT X (lv' := [(6, .long (lI (((gI (sI (sL σ (a0 + 2) v5 v3) a0 4 (v5 + 1)) (a0 + 1) v5) * v3) + v1))), (0, .ref a0), (1, .long (lI v1)), (3, .long (lI v3)), (5, .int (iI v5))]) dX0_makeWorths_53 (by decide) rfl ?_
      refine g_lload_nT X 3 dX0_makeWorths_55 rfl ?_
      refine g_lstore_nT X (lv' := [(1, .long (lI v3)), (6, .long (lI (((gI (sI (sL σ (a0 + 2) v5 v3) a0 4 (v5 + 1)) (a0 + 1) v5) * v3) + v1))), (0, .ref a0), (3, .long (lI v3)), (5, .int (iI v5))]) dX0_makeWorths_56 (by decide) rfl ?_
      refine g_lloadT X 1 dX0_makeWorths_57 rfl ?_
      refine g_lstore_nT X (lv' := [(3, .long (lI (((gI (sI (sL σ (a0 + 2) v5 v3) a0 4 (v5 + 1)) (a0 + 1) v5) * v3) + v1))), (1, .long (lI v3)), (6, .long (lI (((gI (sI (sL σ (a0 + 2) v5 v3) a0 4 (v5 + 1)) (a0 + 1) v5) * v3) + v1))), (0, .ref a0), (5, .int (iI v5))]) dX0_makeWorths_59 (by decide) rfl ?_
      refine g_iincT X (x := v5) (lv' := [(5, .int (iI (v5 + 1))), (3, .long (lI (((gI (sI (sL σ (a0 + 2) v5 v3) a0 4 (v5 + 1)) (a0 + 1) v5) * v3) + v1))), (1, .long (lI v3)), (6, .long (lI (((gI (sI (sL σ (a0 + 2) v5 v3) a0 4 (v5 + 1)) (a0 + 1) v5) * v3) + v1))), (0, .ref a0)]) 4 dX0_makeWorths_60 rfl (by decide) rfl ?_
      refine g_gotoT X (tgt := 7) dX0_makeWorths_63 (by decide) ?_
      exact g_subT (lv' := [(0, .ref a0), (1, .long (lI v3)), (3, .long (lI (((gI (sI (sL σ (a0 + 2) v5 v3) a0 4 (v5 + 1)) (a0 + 1) v5) * v3) + v1))), (5, .int (iI (v5 + 1)))]) [4, 2, 1, 0] rfl (h p l e s m args below meth c D cA ad X0 hr hlk)
theorem bX0_tell_0T {a0 : Nat} {v1 : Int} {v2 : Int} {σ : ASt} {Q : ASt → Prop} (ha0 : shpT a0 = (0, 0, 0)) (h32v1 : i32 v1) (h : i32 ((if (8 : Int) < v1 then 8 else v1)) ∧ WxT K_X0_tell (QV Q) 24 [(0, .ref a0), (3, .int (iI v2)), (4, .int (iI ((gI (sI σ a0 3 (if (1 : Int) < (if (8 : Int) < v1 then 8 else v1) then (if (8 : Int) < v1 then 8 else v1) else 1)) a0 3) - 1)))] [] (sI σ a0 3 (if (1 : Int) < (if (8 : Int) < v1 then 8 else v1) then (if (8 : Int) < v1 then 8 else v1) else 1))) : WxT K_X0_tell (QV Q) 0 [(0, .ref a0), (1, .int (iI v1)), (2, .int (iI v2))] [] σ := by
  intro p l e s m args below meth c D cA ad X0 hr hlk
  have X : CxT p s m args c (adAT ad) D cA ad RX0 cX0_tell 5 := X0
  refine g_aload_nT X 0 dX0_tell_0 rfl ?_
  refine g_iconstT X dX0_tell_1 ?_
  refine g_iload_nT X 1 dX0_tell_2 rfl ?_
  refine g_bipushT X dX0_tell_3 (by decide +kernel) ?_
  refine g_mminT X dX0_tell_5 lm_X0_31 (by decide) (Nat.le_of_ble_eq_true rfl) ⟨by decide, by decide⟩ h32v1 (by omega) ?_
  obtain ⟨q1, h⟩ := h
  refine g_mmaxT X dX0_tell_8 lm_X0_37 (by decide) (Nat.le_of_ble_eq_true rfl) ⟨by decide, by decide⟩ (by omega) q1 ?_
  refine g_putIT X (j := 3) (z := 3) dX0_tell_11 lp_X0_40 ha0 rfl rfl ?_
  refine g_iload_nT X 2 dX0_tell_14 rfl ?_
  refine g_istore_nT X (lv' := [(3, .int (iI v2)), (0, .ref a0), (1, .int (iI v1)), (2, .int (iI v2))]) dX0_tell_15 (by decide) rfl ?_
  refine g_aload_nT X 1 dX0_tell_16 rfl ?_
  refine g_getIT X (z := 3) dX0_tell_17 lf_X0_40 ha0 rfl rfl ?_
  refine g_iconstT X dX0_tell_20 ?_
  refine g_isubT X dX0_tell_21 ?_
  refine g_istoreT X (lv' := [(4, .int (iI ((gI (sI σ a0 3 (if (1 : Int) < (if (8 : Int) < v1 then 8 else v1) then (if (8 : Int) < v1 then 8 else v1) else 1)) a0 3) - 1))), (3, .int (iI v2)), (0, .ref a0), (1, .int (iI v1)), (2, .int (iI v2))]) dX0_tell_22 (by decide) rfl ?_
  exact g_subT (lv' := [(0, .ref a0), (3, .int (iI v2)), (4, .int (iI ((gI (sI σ a0 3 (if (1 : Int) < (if (8 : Int) < v1 then 8 else v1) then (if (8 : Int) < v1 then 8 else v1) else 1)) a0 3) - 1)))]) [2, 1, 0] rfl (h p l e s m args below meth c D cA ad X0 hr hlk)
theorem eX0_tellT {a0 : Nat} {v1 : Int} {v2 : Int} {σ : ASt} {Q : ASt → Prop} (ha0 : shpT a0 = (0, 0, 0)) (h32v1 : i32 v1) (h : i32 ((if (8 : Int) < v1 then 8 else v1)) ∧ WxT K_X0_tell (QV Q) 24 [(0, .ref a0), (3, .int (iI v2)), (4, .int (iI ((gI (sI σ a0 3 (if (1 : Int) < (if (8 : Int) < v1 then 8 else v1) then (if (8 : Int) < v1 then 8 else v1) else 1)) a0 3) - 1)))] [] (sI σ a0 3 (if (1 : Int) < (if (8 : Int) < v1 then 8 else v1) then (if (8 : Int) < v1 then 8 else v1) else 1))) : EvVT K_X0_tell [.ref a0, .int (iI v1), .int (iI v2)] σ Q := EvT.of rfl (Nat.le_of_ble_eq_true rfl) rfl (bX0_tell_0T ha0 h32v1 h)
theorem bX0_tell_24T {a0 : Nat} {v3 : Int} {v4 : Int} {σ : ASt} {Q : ASt → Prop} (ha0 : shpT a0 = (0, 0, 0)) (h32v3 : i32 v3) (h32v4 : i32 v4) (h : ((v4 < 0 → WxT K_X0_tell (QV Q) 57 [(0, .ref a0), (4, .int (iI (gI σ a0 3)))] [] σ) ∧ (0 ≤ v4 → ((0 : Int) ≤ v4 ∧ v4 < 43) ∧ WxT K_X0_tell (QV Q) 24 [(0, .ref a0), (3, .int (iI (Int.tdiv v3 10))), (4, .int (iI (v4 + (-1))))] [] (sI σ (a0 + 1) v4 (Int.tmod v3 10))))) : WxT K_X0_tell (QV Q) 24 [(0, .ref a0), (3, .int (iI v3)), (4, .int (iI v4))] [] σ := by
  intro p l e s m args below meth c D cA ad X0 hr hlk
  have X : CxT p s m args c (adAT ad) D cA ad RX0 cX0_tell 5 := X0
  refine g_iloadT X 2 dX0_tell_24 rfl ?_
  refine g_if_ltT X (tgt := 51) dX0_tell_26 (by decide) h32v4 (fun c1 => ?_) (fun c1 => ?_)
  · have h := h.1 c1
    refine g_aload_nT X 0 dX0_tell_51 rfl ?_
    refine g_getIT X (z := 3) dX0_tell_52 lf_X0_40 ha0 rfl rfl ?_
    refine g_istoreT X (lv' := [(4, .int (iI (gI σ a0 3))), (0, .ref a0), (3, .int (iI v3))]) dX0_tell_55 (by decide) rfl ?_
    exact g_subT (lv' := [(0, .ref a0), (4, .int (iI (gI σ a0 3)))]) [1, 0] rfl (h p l e s m args below meth c D cA ad X0 hr hlk)
  · have h := h.2 c1
    refine g_aload_nT X 0 dX0_tell_29 rfl ?_
    refine g_getFT X (f := (a0 + 1)) dX0_tell_30 lf_X0_9 ha0 rfl (fn_0_1T ha0) ?_
    refine g_iloadT X 2 dX0_tell_33 rfl ?_
    refine g_iload_nT X 1 dX0_tell_35 rfl ?_
    refine g_bipushT X dX0_tell_36 (by decide +kernel) ?_
    refine g_iremT X dX0_tell_38 h32v3 (by omega) (by decide) ?_
    obtain ⟨q2, h⟩ := h
    refine g_iastT X dX0_tell_39 (sf_0_1T ha0) q2.1 q2.2 ?_
    refine g_iload_nT X 1 dX0_tell_40 rfl ?_
    refine g_bipushT X dX0_tell_41 (by decide +kernel) ?_
    refine g_idivT X dX0_tell_43 h32v3 (by omega) (by decide) ?_
    refine g_istore_nT X (lv' := [(3, .int (iI (Int.tdiv v3 10))), (0, .ref a0), (4, .int (iI v4))]) dX0_tell_44 (by decide) rfl ?_
    refine g_iincT X (x := v4) (lv' := [(4, .int (iI (v4 + (-1)))), (3, .int (iI (Int.tdiv v3 10))), (0, .ref a0)]) 2 dX0_tell_45 rfl (by decide) rfl ?_
    refine g_gotoT X (tgt := 24) dX0_tell_48 (by decide) ?_
    exact g_subT (lv' := [(0, .ref a0), (3, .int (iI (Int.tdiv v3 10))), (4, .int (iI (v4 + (-1))))]) [2, 1, 0] rfl (h p l e s m args below meth c D cA ad X0 hr hlk)
theorem bX0_tell_57T {a0 : Nat} {v4 : Int} {σ : ASt} {Q : ASt → Prop} (ha0 : shpT a0 = (0, 0, 0)) (h32v4 : i32 v4) (h : ((43 ≤ v4 → EvVT K_X0_makeWorths [.ref a0] σ (fun s2 => Q s2)) ∧ (v4 < 43 → ((0 : Int) ≤ (v4 - (gI σ a0 3)) ∧ (v4 - (gI σ a0 3)) < 43) ∧ ((0 : Int) ≤ v4 ∧ v4 < 43) ∧ WxT K_X0_tell (QV Q) 57 [(0, .ref a0), (4, .int (iI (v4 + 1)))] [] (sI σ (a0 + 1) v4 (gI σ (a0 + 1) (v4 - (gI σ a0 3))))))) : WxT K_X0_tell (QV Q) 57 [(0, .ref a0), (4, .int (iI v4))] [] σ := by
  intro p l e s m args below meth c D cA ad X0 hr hlk
  have X : CxT p s m args c (adAT ad) D cA ad RX0 cX0_tell 5 := X0
  refine g_iloadT X 1 dX0_tell_57 rfl ?_
  refine g_aload_nT X 0 dX0_tell_59 rfl ?_
  refine g_getFT X (f := (a0 + 1)) dX0_tell_60 lf_X0_9 ha0 rfl (fn_0_1T ha0) ?_
  refine g_alen1T X (z := 43) dX0_tell_63 (sf_0_1T ha0) rfl ?_
  refine g_icmp_geT X (tgt := 92) dX0_tell_64 (by decide) h32v4 (by omega) (fun c1 => ?_) (fun c1 => ?_)
  · have h := h.1 c1
    refine g_aload_nT X 0 dX0_tell_92 rfl ?_
    refine g_cVVT X (K := K_X0_makeWorths) [] [] dX0_tell_93 lv_X0_43 rm_X0_tell_X0_makeWorths ⟨by decide, by decide⟩ adA_idT ha0 rfl rfl (Nat.le_of_ble_eq_true rfl) rfl h (fun s2 h => ?_)
    exact g_vretT X hr hlk dX0_tell_96 ⟨rfl, h⟩
  · have h := h.2 c1
    refine g_aload_nT X 0 dX0_tell_67 rfl ?_
    refine g_getFT X (f := (a0 + 1)) dX0_tell_68 lf_X0_9 ha0 rfl (fn_0_1T ha0) ?_
    refine g_iloadT X 1 dX0_tell_71 rfl ?_
    refine g_aload_nT X 0 dX0_tell_73 rfl ?_
    refine g_getFT X (f := (a0 + 1)) dX0_tell_74 lf_X0_9 ha0 rfl (fn_0_1T ha0) ?_
    refine g_iloadT X 1 dX0_tell_77 rfl ?_
    refine g_aload_nT X 0 dX0_tell_79 rfl ?_
    refine g_getIT X (z := 3) dX0_tell_80 lf_X0_40 ha0 rfl rfl ?_
    refine g_isubT X dX0_tell_83 ?_
    obtain ⟨q3, h⟩ := h
    refine g_ialdT X dX0_tell_84 (sf_0_1T ha0) q3.1 q3.2 ?_
    obtain ⟨q4, h⟩ := h
    refine g_iastT X dX0_tell_85 (sf_0_1T ha0) q4.1 q4.2 ?_
    refine g_iincT X (x := v4) (lv' := [(4, .int (iI (v4 + 1))), (0, .ref a0)]) 1 dX0_tell_86 rfl (by decide) rfl ?_
    refine g_gotoT X (tgt := 57) dX0_tell_89 (by decide) ?_
    exact g_subT (lv' := [(0, .ref a0), (4, .int (iI (v4 + 1)))]) [1, 0] rfl (h p l e s m args below meth c D cA ad X0 hr hlk)
def CBT (σ : ASt) (o : Nat) (s : Int → Int) (n : Int) (h : Nat) : Prop :=
  gI σ o 3 = n ∧ gI σ o 4 = h ∧ gL σ o 5 = wo s h - 1 ∧ (∀ k : Int, 0 ≤ k → k < 43 → gI σ (o + 1) k = s k) ∧ (∀ k : Int, 0 ≤ k → k < h → gL σ (o + 2) k = wo s k.toNat)
theorem sp_makeWorthsT {o : Nat} (ho : shpT o = (0, 0, 0)) {s : Int → Int} {n : Int} {σ : ASt} {Q : ASt → Prop} (n1 : 1 ≤ n) (n8 : n ≤ 8) (sb : ∀ k : Int, 0 ≤ k → 1 ≤ s k ∧ s k ≤ 9) (sp : ∀ k : Int, 0 ≤ k → s (k + n) = s k) (hs : ∀ k : Int, 0 ≤ k → k < 43 → gI σ (o + 1) k = s k) (hq : ∀ (h : Nat) (τ : ASt), BOK s n h → Ag (fun b => b ≠ o ∧ b ≠ o + 2) σ τ → (∀ j : Int, j ≠ 4 → gI τ o j = gI σ o j) → gI τ o 4 = h → gL τ o 5 = wo s h - 1 → (∀ k : Int, 0 ≤ k → k < h → gL τ (o + 2) k = wo s k.toNat) → Q τ) : EvVT K_X0_makeWorths [.ref o] σ Q := by
  have s1 : ∀ k : Int, 0 ≤ k → 1 ≤ s k := fun k hk => (sb k hk).1
  have hA0 : ∀ {τ : ASt}, Ag (fun b => b ≠ o ∧ b ≠ o + 2) σ τ → ∀ k : Int, 0 ≤ k → k < 43 → gI τ (o + 1) k = s k := fun hA k a b => (hA.I (by constructor <;> omega) k).trans (hs k a b)
  have done : ∀ (j : Nat) (τ : ASt), 1 ≤ j → 1000000000 < wo s j → Ag (fun b => b ≠ o ∧ b ≠ o + 2) σ τ → (∀ i : Int, i ≠ 4 → gI τ o i = gI σ o i) → gI τ o 4 = j → (∀ i : Nat, i < j → wo s i ≤ 1000000000) → (∀ k : Int, 0 ≤ k → k < j → gL τ (o + 2) k = wo s k.toNat) → Q (sL τ o 5 (wo s j - 1)) := fun j τ j1 hw hA hI h4 hle hL =>
    hq j _ ⟨n1, n8, sb, sp, j1, hle, hw⟩ (hA.trans (ag_sL (fun b hb => hb.1))) hI h4 (gL_self _ _ _ _) (fun k a b => by rw [gL_na _ _ _ _ (by omega)]; exact hL k a b)
  have lp : ∀ (m : Nat) (j : Nat) (τ : ASt), j + m = 43 → Ag (fun b => b ≠ o ∧ b ≠ o + 2) σ τ → (∀ i : Int, i ≠ 4 → gI τ o i = gI σ o i) → (1 ≤ j → gI τ o 4 = j) → (∀ i : Nat, i < j → wo s i ≤ 1000000000) → (∀ k : Int, 0 ≤ k → k < j → gL τ (o + 2) k = wo s k.toNat) → wo s j ≤ 10000000000 → WxT K_X0_makeWorths (QV Q) 7 [(0, .ref o), (1, .long (lI (if j = 0 then 1 else wo s (j - 1)))), (3, .long (lI (wo s j))), (5, .int (iI (j : Int)))] [] τ := by
    intro m
    induction m with
    | zero =>
      intro j τ hj hA hI h4 hle hL hw
      have p1 := wo_pos s1 j
      have f1 := (wo_fb s1 43).1
      have f2 := fb_43
      have e : j = 43 := by omega
      refine bX0_makeWorths_7T ho (by omega) (by omega) ⟨fun _ => done j τ (by omega) (by rw [e]; omega) hA hI (h4 (by omega)) hle hL, fun q => by omega⟩
    | succ m ih =>
      intro j τ hj hA hI h4 hle hL hw
      have p1 := wo_pos s1 j
      refine bX0_makeWorths_7T ho (by omega) (by omega) ⟨fun q => by omega, fun _ => ⟨fun q => ?_, fun q => ⟨⟨by omega, by omega⟩, ?_⟩⟩⟩
      · refine done j τ ?_ q hA hI (h4 ?_) hle hL
        · rcases Nat.eq_zero_or_pos j with z | z
          · rw [z] at q; simp only [wo] at q; omega
          · exact z
        · rcases Nat.eq_zero_or_pos j with z | z
          · rw [z] at q; simp only [wo] at q; omega
          · exact z
      · have hA1 : Ag (fun b => b ≠ o ∧ b ≠ o + 2) σ (sI (sL τ (o + 2) (j : Int) (wo s j)) o 4 ((j : Int) + 1)) := (hA.trans (ag_sL (fun b hb => hb.2))).trans (ag_sI (fun b hb => hb.1))
        have e1 : gI (sI (sL τ (o + 2) (j : Int) (wo s j)) o 4 ((j : Int) + 1)) (o + 1) (j : Int) = s j := hA0 hA1 j (by omega) (by omega)
        have sj := sb j (by omega)
        rw [e1]
        refine ⟨by omega, ?_⟩
        have e2 : s j * wo s j + (if j = 0 then 1 else wo s (j - 1)) = wo s (j + 1) := by
          by_cases z : j = 0
          · subst z
            rw [if_pos rfl]
            show s 0 * 1 + 1 = s 0 + 1
            omega
          · rw [if_neg z, wo_step j (by omega)]
        have e3 : wo s j = if j + 1 = 0 then 1 else wo s (j + 1 - 1) := by rw [if_neg (by omega), Nat.add_sub_cancel]
        have e4 : (j : Int) + 1 = ((j + 1 : Nat) : Int) := by omega
        have b1 : wo s (j + 1) ≤ 10000000000 := by
          rw [← e2]
          have := Int.mul_le_mul sj.2 q (by omega) (by omega)
          by_cases z : j = 0
          · rw [if_pos z]; omega
          · rw [if_neg z]
            have := hle (j - 1) (by omega)
            omega
        rw [e2]
        have key := ih (j + 1) (sI (sL τ (o + 2) (j : Int) (wo s j)) o 4 ((j : Int) + 1)) (by omega) hA1 (fun i hi => by
          rw [gI_ne _ _ _ hi]
          exact hI i hi) (fun _ => by rw [gI_self]; omega) (fun i hi => by
          by_cases z : i = j
          · rw [z]; exact q
          · exact hle i (by omega)) (fun k a b => by
          rw [gL_sI]
          by_cases z : k = (j : Int)
          · rw [z, gL_self, Int.toNat_natCast]
          · rw [gL_ne _ _ _ z]; exact hL k a (by omega)) b1
        rw [← e3, ← e4] at key
        exact key
  exact eX0_makeWorthsT ho (lp 43 0 σ (by omega) Ag.rf (fun _ _ => rfl) (fun q => by omega) (fun i hi => by omega) (fun k a b => by omega) (by simp [wo]))
theorem sp_tellT {o : Nat} (ho : shpT o = (0, 0, 0)) {n row : Int} (hr : i32 row) (R : rowP n row) {σ : ASt} {Q : ASt → Prop} (hq : ∀ (h : Nat) (τ : ASt), BOK (stf n row) n h → Ag (fun b => b ≠ o ∧ b ≠ o + 1 ∧ b ≠ o + 2) σ τ → CBT τ o (stf n row) n h → gI τ o 0 = gI σ o 0 → Q τ) : EvVT K_X0_tell [.ref o, .int (iI n), .int (iI row)] σ Q := by
  obtain ⟨r1, r2, r3, r4, r5⟩ := id R
  refine eX0_tellT ho (by omega) ⟨by split <;> omega, ?_⟩
  have en : (if (1 : Int) < (if (8 : Int) < n then 8 else n) then (if (8 : Int) < n then 8 else n) else 1) = n := by
    rw [if_neg (show ¬ (8 : Int) < n by omega)]
    split <;> omega
  rw [en, gI_self]
  -- the places from n on
  have lp2 : ∀ (m : Nat) (k : Int) (τ : ASt), n ≤ k → k + m = 43 → Ag (fun b => b ≠ o ∧ b ≠ o + 1) σ τ → (∀ j : Int, j ≠ 3 → gI τ o j = gI σ o j) → gI τ o 3 = n → (∀ j : Int, 0 ≤ j → j < k → gI τ (o + 1) j = stf n row j) → WxT K_X0_tell (QV Q) 57 [(0, .ref o), (4, .int (iI k))] [] τ := by
    intro m
    induction m with
    | zero =>
      intro k τ k0 hk hA hI h3 hj
      refine bX0_tell_57T ho (by omega) ⟨fun _ => ?_, fun q => by omega⟩
      refine sp_makeWorthsT ho r1 r2 (fun j hj0 => stf_b R hj0) (fun j _ => stf_per j) (fun j a b => hj j a (by omega)) (fun h υ B hA2 hI2 h4 h5 hL => ?_)
      refine hq h υ B ((hA.mono (fun b hb => ⟨hb.1, hb.2.1⟩)).trans (hA2.mono (fun b hb => ⟨hb.1, hb.2.2⟩))) ⟨(hI2 3 (by omega)).trans h3, h4, h5, fun j a b => (hA2.I (by constructor <;> omega) j).trans (hj j a (by omega)), hL⟩ ((hI2 0 (by omega)).trans (hI 0 (by omega)))
    | succ m ih =>
      intro k τ k0 hk hA hI h3 hj
      refine bX0_tell_57T ho (by omega) ⟨fun q => by omega, fun _ => ?_⟩
      rw [h3]
      refine ⟨⟨by omega, by omega⟩, ⟨by omega, by omega⟩, ?_⟩
      refine ih (k + 1) _ (by omega) (by omega) (hA.trans (ag_sI (fun b hb => hb.2))) (fun j hj3 => by rw [gI_na _ _ _ _ (by omega)]; exact hI j hj3) (by rw [gI_na _ _ _ _ (by omega)]; exact h3) (fun j a b => ?_)
      by_cases e : j = k
      · rw [e, gI_self, hj (k - n) (by omega) (by omega)]
        have := stf_per (n := n) (row := row) (k - n)
        rw [show k - n + n = k by omega] at this
        exact this.symm
      · rw [gI_ne _ _ _ e]; exact hj j a (by omega)
  -- the figures, the last first
  have lp1 : ∀ (m : Nat) (j : Nat) (τ : ASt), (j : Int) + m = n → Ag (fun b => b ≠ o ∧ b ≠ o + 1) σ τ → (∀ i : Int, i ≠ 3 → gI τ o i = gI σ o i) → gI τ o 3 = n → (∀ i : Int, (m : Int) ≤ i → i < n → gI τ (o + 1) i = stf n row i) → WxT K_X0_tell (QV Q) 24 [(0, .ref o), (3, .int (iI (lf row j))), (4, .int (iI ((m : Int) - 1)))] [] τ := by
    intro m
    induction m with
    | zero =>
      intro j τ hj hA hI h3 hi
      have b1 := lf_nn r3 j
      have b2 := lf_le r3 j
      refine bX0_tell_24T ho (by omega) (by omega) ⟨fun _ => ?_, fun q => by omega⟩
      rw [h3]
      exact lp2 (43 - n).toNat n τ (Int.le_refl _) (by omega) hA hI h3 (fun i a b => hi i (by omega) b)
    | succ m ih =>
      intro j τ hj hA hI h3 hi
      have b1 := lf_nn r3 j
      have b2 := lf_le r3 j
      have e1 : Int.tmod (lf row j) 10 = lf row j % 10 := Int.tmod_eq_emod_of_nonneg b1
      have e2 : Int.tdiv (lf row j) 10 = lf row j / 10 := Int.tdiv_eq_ediv_of_nonneg b1
      have e3 : ((m + 1 : Nat) : Int) - 1 = (m : Int) := by omega
      rw [e3]
      refine bX0_tell_24T ho (by omega) (by omega) ⟨fun q => by omega, fun _ => ⟨⟨by omega, by omega⟩, ?_⟩⟩
      rw [e1, e2]
      have e4 : (m : Int) + (-1) = (m : Int) - 1 := by omega
      rw [e4]
      refine ih (j + 1) _ (by omega) (hA.trans (ag_sI (fun b hb => hb.2))) (fun i hi3 => by rw [gI_na _ _ _ _ (by omega)]; exact hI i hi3) (by rw [gI_na _ _ _ _ (by omega)]; exact h3) (fun i a b => ?_)
      by_cases e : i = (m : Int)
      · rw [e, gI_self]
        unfold stf
        rw [Int.emod_eq_of_lt (a := (m : Int)) (b := n) (by omega) (by omega), show (n - 1 - (m : Int)).toNat = j by omega]
      · rw [gI_ne _ _ _ e]; exact hi i (by omega) b
  have := lp1 n.toNat 0 (sI σ o 3 n) (by omega) (ag_sI (fun b hb => hb.1)) (fun i hi => gI_ne _ _ _ hi) (gI_self _ _ _ _) (fun i a b => by omega)
  rw [show (n.toNat : Int) = n by omega] at this
  exact this
