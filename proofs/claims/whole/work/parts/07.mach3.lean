/-! fields and arrays of the world -/
/-- a link to a field: the reader's class, its pool's number, the object's class by number, the place; the descriptor's type -/
def LkF (own : String) (index ci j : Nat) : Prop := ∃ (q : vw_C) (ty : FieldType), vwCl[ci]? = some q ∧ j < q.2.2 ∧ Cond.fieldLink own index (q.2.1 j).1 (q.2.1 j).2.1 (q.2.1 j).2.2.1 ∈ allW ∧ (∀ w ∈ u_ws q.1 q.2.1 q.2.2, w ∈ allW) ∧ parseFieldDescriptor (q.2.1 j).2.2.1 = some ty
/-- a link to a field that may be written -/
def LkP (own : String) (index ci j : Nat) (ty : FieldType) : Prop := ∃ (q : vw_C) (ty0 : Nat → FieldType), vwCl[ci]? = some q ∧ j < q.2.2 ∧ Cond.fieldLink own index (q.2.1 j).1 (q.2.1 j).2.1 (q.2.1 j).2.2.1 ∈ allW ∧ (∀ w ∈ u_ws q.1 q.2.1 q.2.2, w ∈ allW) ∧ parseFieldDescriptor (q.2.1 j).2.2.1 = some ty ∧ (∀ k, k < q.2.2 → parseFieldDescriptor (q.2.1 k).2.2.1 = some (ty0 k)) ∧ (∀ a, a < q.2.2 → ∀ b, b < q.2.2 → a ≠ b → (q.2.1 a).2.1 ≠ (q.2.1 b).2.1) ∧ (q.2.1 j).2.2.2 = false
section GH
variable {p : Program} {l : Launch} {e : Env} {R : Room} {s : State} {m : MethodId} {args : Array Value} {below : List Frame} {meth : Method} {c : Code} {A : Nat → Prop} {D : va_G} {cA : Nat → ClassId} {ad : Nat → Nat} {cells slots : Nat} {G : State → Prop} {own : String} {cc : ByteArray} {mx : Nat} {pc : Nat} {lv lv' : List (Nat × Value)} {st : List Value} {σ : ASt}
theorem g_get (X : Cx p s m args c A D cA ad own cc mx) {index ci j n t id : Nat} (hd : decode cc pc = .ok (.getfield index, 3)) (hL : LkF own index ci j) (hs : shp id = (0, ci, n)) (ht : (fty ci)[j]? = some t) {v : Value} (hv : entF ad σ id j t = cv ad v) (k : Wg p l e R s m args below meth c A D cA ad cells slots G (pc + 3) lv (v :: st) σ) : Wg p l e R s m args below meth c A D cA ad cells slots G pc lv (.ref id :: st) σ := by
  obtain ⟨q, ty, hc, hj, hlk, hin, hty⟩ := hL
  intro H locs ls hP hS hl
  refine va_get (ci := ci) (fs := (fty ci).mapIdx (fun j t => entF ad σ id j t)) X.1 X.2.1 X.2.2.1 hin X.2.2.2.1 X.2.2.2.2.1 hP id ?_ hc j hj (X.2.2.1 _ hlk) (fun _ h => h) (v := cv ad v) ?_ hd (k H locs ls hP hS hl)
  · rw [wl_get cA ad σ (shp_lt hs (by show 0 < 9; decide)), ent_0 hs]
  · rw [List.getElem?_mapIdx, ht, ← hv]; rfl
theorem g_getI (X : Cx p s m args c A D cA ad own cc mx) {index ci j n id : Nat} {z : Int} (hd : decode cc pc = .ok (.getfield index, 3)) (hL : LkF own index ci j) (hs : shp id = (0, ci, n)) (ht : (fty ci)[j]? = some 0) (hz : (j : Int) = z) (k : Wg p l e R s m args below meth c A D cA ad cells slots G (pc + 3) lv (.int (iI (gI σ id z)) :: st) σ) : Wg p l e R s m args below meth c A D cA ad cells slots G pc lv (.ref id :: st) σ := by
  subst hz
  exact g_get X hd hL hs ht rfl k
theorem g_getL (X : Cx p s m args c A D cA ad own cc mx) {index ci j n id : Nat} {z : Int} (hd : decode cc pc = .ok (.getfield index, 3)) (hL : LkF own index ci j) (hs : shp id = (0, ci, n)) (ht : (fty ci)[j]? = some 1) (hz : (j : Int) = z) (k : Wg p l e R s m args below meth c A D cA ad cells slots G (pc + 3) lv (.long (lI (gL σ id z)) :: st) σ) : Wg p l e R s m args below meth c A D cA ad cells slots G pc lv (.ref id :: st) σ := by
  subst hz
  exact g_get X hd hL hs ht rfl k
theorem g_getF (X : Cx p s m args c A D cA ad own cc mx) {index ci j n id f : Nat} (hd : decode cc pc = .ok (.getfield index, 3)) (hL : LkF own index ci j) (hs : shp id = (0, ci, n)) (ht : (fty ci)[j]? = some 2) (hf : fin id j = f) (k : Wg p l e R s m args below meth c A D cA ad cells slots G (pc + 3) lv (.ref f :: st) σ) : Wg p l e R s m args below meth c A D cA ad cells slots G pc lv (.ref id :: st) σ := g_get X hd hL hs ht (by subst hf; rfl) k
theorem g_getP (X : Cx p s m args c A D cA ad own cc mx) {index ci j n id : Nat} (hd : decode cc pc = .ok (.getfield index, 3)) (hL : LkF own index ci j) (hs : shp id = (0, ci, n)) (ht : (fty ci)[j]? = some 3) (kn : gP σ id j = none → Wg p l e R s m args below meth c A D cA ad cells slots G (pc + 3) lv (.null :: st) σ) (ks : ∀ x, gP σ id j = some x → Wg p l e R s m args below meth c A D cA ad cells slots G (pc + 3) lv (.ref x :: st) σ) : Wg p l e R s m args below meth c A D cA ad cells slots G pc lv (.ref id :: st) σ := by
  cases hr : gP σ id j with
  | none => exact g_get X hd hL hs ht (v := .null) (by show va_rf ((gP σ id j).map ad) = _; rw [hr]; rfl) (kn hr)
  | some x => exact g_get X hd hL hs ht (v := .ref x) (by show va_rf ((gP σ id j).map ad) = _; rw [hr]; rfl) (ks x hr)
theorem g_getPn (X : Cx p s m args c A D cA ad own cc mx) {index ci j n id : Nat} (hd : decode cc pc = .ok (.getfield index, 3)) (hL : LkF own index ci j) (hs : shp id = (0, ci, n)) (ht : (fty ci)[j]? = some 3) (hr : gP σ id j = none) (kn : Wg p l e R s m args below meth c A D cA ad cells slots G (pc + 3) lv (.null :: st) σ) : Wg p l e R s m args below meth c A D cA ad cells slots G pc lv (.ref id :: st) σ :=
  g_get X hd hL hs ht (v := .null) (by show va_rf ((gP σ id j).map ad) = _; rw [hr]; rfl) kn
theorem g_getPs (X : Cx p s m args c A D cA ad own cc mx) {index ci j n id x : Nat} (hd : decode cc pc = .ok (.getfield index, 3)) (hL : LkF own index ci j) (hs : shp id = (0, ci, n)) (ht : (fty ci)[j]? = some 3) (hr : gP σ id j = some x) (ks : Wg p l e R s m args below meth c A D cA ad cells slots G (pc + 3) lv (.ref x :: st) σ) : Wg p l e R s m args below meth c A D cA ad cells slots G pc lv (.ref id :: st) σ :=
  g_get X hd hL hs ht (v := .ref x) (by show va_rf ((gP σ id j).map ad) = _; rw [hr]; rfl) ks
theorem ent_put0 {σ' : ASt} {id ci n j t : Nat} {v : Value} (hs : shp id = (0, ci, n)) (ht : (fty ci)[j]? = some t) (hv : entF ad σ' id j t = v) (ho : ∀ i u, i ≠ j → entF ad σ' id i u = entF ad σ id i u) : ent cA ad σ' id = .inr (ci, ((fty ci).mapIdx (fun j t => entF ad σ id j t)).set j v) := by
  rw [ent_0 hs]
  congr 2
  apply List.ext_getElem?
  intro i
  have hlt := (List.getElem?_eq_some_iff.mp ht).1
  by_cases hi : i = j
  · subst hi
    rw [List.getElem?_mapIdx, ht, List.getElem?_set_self (by simpa using hlt), ← hv]; rfl
  · rw [List.getElem?_set_ne (fun q => hi q.symm), List.getElem?_mapIdx, List.getElem?_mapIdx]
    cases (fty ci)[i]? with
    | none => rfl
    | some u => exact congrArg some (ho i u hi)
theorem g_put (X : Cx p s m args c A D cA ad own cc mx) {index ci j n t id : Nat} {ty : FieldType} {v : Value} {σ' : ASt} (hd : decode cc pc = .ok (.putfield index, 3)) (hL : LkP own index ci j ty) (hs : shp id = (0, ci, n)) (ht : (fty ci)[j]? = some t) (hn : narrow ty (cv ad v) = cv ad v) (hfit : fits ty (cv ad v) = true) (hv : entF ad σ' id j t = cv ad v) (ho : ∀ i u, i ≠ j → entF ad σ' id i u = entF ad σ id i u) (ho2 : ∀ b, b ≠ id → ent cA ad σ' b = ent cA ad σ b) (k : Wg p l e R s m args below meth c A D cA ad cells slots G (pc + 3) lv st σ') : Wg p l e R s m args below meth c A D cA ad cells slots G pc lv (v :: .ref id :: st) σ := by
  obtain ⟨q, ty0, hc, hj, hlk, hin, hty, hty0, hnm, hfin⟩ := hL
  intro H locs ls hP hS hl
  have hid := shp_lt hs (by show 0 < 9; decide)
  have hw : (wl cA ad σ).set id (ad id, .inr (ci, ((fty ci).mapIdx (fun j t => entF ad σ id j t)).set j (cv ad v))) = wl cA ad σ' := wl_set cA ad σ σ' hid (ent_put0 hs ht hv ho) ho2
  refine va_put (ci := ci) (fs := (fty ci).mapIdx (fun j t => entF ad σ id j t)) X.1 X.2.1 X.2.2.1 hin ty0 hty0 hnm X.2.2.2.1 X.2.2.2.2.1 hP (wl_D X.2.2.2.2.2.1 X.2.2.2.2.2.2.1) hS id ?_ hc j hj (X.2.2.1 _ hlk) (fun _ h => h) hfin hty hn hfit ?_ hd (fun H1 locs1 hP1 _ hS1 => ?_)
  · rw [wl_get cA ad σ hid, ent_0 hs]
  · have := (List.getElem?_eq_some_iff.mp ht).1
    simpa using this
  · rw [hw] at hP1
    exact k H1 locs1 ls hP1 hS1 hl
theorem g_putI (X : Cx p s m args c A D cA ad own cc mx) {index ci j n id : Nat} {x z : Int} (hd : decode cc pc = .ok (.putfield index, 3)) (hL : LkP own index ci j .int) (hs : shp id = (0, ci, n)) (ht : (fty ci)[j]? = some 0) (hz : (j : Int) = z) (k : Wg p l e R s m args below meth c A D cA ad cells slots G (pc + 3) lv st (sI σ id z x)) : Wg p l e R s m args below meth c A D cA ad cells slots G pc lv (.int (iI x) :: .ref id :: st) σ := by
  subst hz
  refine g_put X (σ' := sI σ id (j : Int) x) hd hL hs ht rfl rfl ?_ ?_ ?_ k
  · show Value.int (iI _) = Value.int (iI x)
    rw [show (sI σ id (j : Int) x).1 id (j : Int) = x from if_pos ⟨rfl, rfl⟩]
  · intro i u hi
    unfold entF
    rw [show (sI σ id (j : Int) x).1 id (i : Int) = σ.1 id (i : Int) from if_neg (fun q => hi (by omega))]
    rfl
  · exact ent_other (fun b hb => by funext i; exact if_neg (fun q => hb q.1)) (fun _ _ => rfl) (fun _ _ => rfl)
theorem g_putZ (X : Cx p s m args c A D cA ad own cc mx) {index ci j n id : Nat} {x z : Int} (hd : decode cc pc = .ok (.putfield index, 3)) (hL : LkP own index ci j .boolean) (hs : shp id = (0, ci, n)) (ht : (fty ci)[j]? = some 0) (hx : narrow .boolean (.int (iI x)) = .int (iI x)) (hfit : fits .boolean (.int (iI x)) = true) (hz : (j : Int) = z) (k : Wg p l e R s m args below meth c A D cA ad cells slots G (pc + 3) lv st (sI σ id z x)) : Wg p l e R s m args below meth c A D cA ad cells slots G pc lv (.int (iI x) :: .ref id :: st) σ := by
  subst hz
  refine g_put X (σ' := sI σ id (j : Int) x) hd hL hs ht hx hfit ?_ ?_ ?_ k
  · show Value.int (iI _) = Value.int (iI x)
    rw [show (sI σ id (j : Int) x).1 id (j : Int) = x from if_pos ⟨rfl, rfl⟩]
  · intro i u hi
    unfold entF
    rw [show (sI σ id (j : Int) x).1 id (i : Int) = σ.1 id (i : Int) from if_neg (fun q => hi (by omega))]
    rfl
  · exact ent_other (fun b hb => by funext i; exact if_neg (fun q => hb q.1)) (fun _ _ => rfl) (fun _ _ => rfl)
theorem g_putL (X : Cx p s m args c A D cA ad own cc mx) {index ci j n id : Nat} {x z : Int} (hd : decode cc pc = .ok (.putfield index, 3)) (hL : LkP own index ci j .long) (hs : shp id = (0, ci, n)) (ht : (fty ci)[j]? = some 1) (hz : (j : Int) = z) (k : Wg p l e R s m args below meth c A D cA ad cells slots G (pc + 3) lv st (sL σ id z x)) : Wg p l e R s m args below meth c A D cA ad cells slots G pc lv (.long (lI x) :: .ref id :: st) σ := by
  subst hz
  refine g_put X (σ' := sL σ id (j : Int) x) hd hL hs ht rfl rfl ?_ ?_ ?_ k
  · show Value.long (lI _) = Value.long (lI x)
    rw [show (sL σ id (j : Int) x).2.1 id (j : Int) = x from if_pos ⟨rfl, rfl⟩]
  · intro i u hi
    unfold entF
    rw [show (sL σ id (j : Int) x).2.1 id (i : Int) = σ.2.1 id (i : Int) from if_neg (fun q => hi (by omega))]
    rfl
  · exact ent_other (fun _ _ => rfl) (fun b hb => by funext i; exact if_neg (fun q => hb q.1)) (fun _ _ => rfl)
theorem g_putP (X : Cx p s m args c A D cA ad own cc mx) {index ci j n id : Nat} {C : String} {v : Value} {r : Option Nat} (hd : decode cc pc = .ok (.putfield index, 3)) (hL : LkP own index ci j (.object C)) (hs : shp id = (0, ci, n)) (ht : (fty ci)[j]? = some 3) (hv : v = va_rf r) (k : Wg p l e R s m args below meth c A D cA ad cells slots G (pc + 3) lv st (sP σ id j r)) : Wg p l e R s m args below meth c A D cA ad cells slots G pc lv (v :: .ref id :: st) σ := by
  subst hv
  refine g_put X (σ' := sP σ id j r) hd hL hs ht (by cases r <;> rfl) (by cases r <;> rfl) ?_ ?_ ?_ k
  · show va_rf (((sP σ id j r).2.2 id j).map ad) = _
    rw [show (sP σ id j r).2.2 id j = r from if_pos ⟨rfl, rfl⟩]
    cases r <;> rfl
  · intro i u hi
    unfold entF
    rw [show (sP σ id j r).2.2 id i = σ.2.2 id i from if_neg (fun q => hi q.2)]
    rfl
  · exact ent_other (fun _ _ => rfl) (fun _ _ => rfl) (fun b hb => by funext i; exact if_neg (fun q => hb q.1))
theorem g_alen1 (X : Cx p s m args c A D cA ad own cc mx) {n x id : Nat} {z : Int} (hd : decode cc pc = .ok (.arraylength, 1)) (hs : shp id = (1, x, n)) (hz : (n : Int) = z) (k : Wg p l e R s m args below meth c A D cA ad cells slots G (pc + 1) lv (.int (iI z) :: st) σ) : Wg p l e R s m args below meth c A D cA ad cells slots G pc lv (.ref id :: st) σ :=
  fun H locs ls hP hS hl => va_alen X.1 X.2.1 X.2.2.2.2.1 hP id 0 (by rw [wl_get cA ad σ (shp_lt hs (by show 1 < 9; decide)), ent_1 hs]) rfl (by rw [← hz]; exact iI_nat n) hd (k H locs ls hP hS hl)
theorem g_alen2 (X : Cx p s m args c A D cA ad own cc mx) {n x id : Nat} {z : Int} (hd : decode cc pc = .ok (.arraylength, 1)) (hs : shp id = (2, x, n)) (hz : (n : Int) = z) (k : Wg p l e R s m args below meth c A D cA ad cells slots G (pc + 1) lv (.int (iI z) :: st) σ) : Wg p l e R s m args below meth c A D cA ad cells slots G pc lv (.ref id :: st) σ :=
  fun H locs ls hP hS hl => va_alen X.1 X.2.1 X.2.2.2.2.1 hP id 1 (by rw [wl_get cA ad σ (shp_lt hs (by show 2 < 9; decide)), ent_2 hs]) rfl (by rw [← hz]; exact iI_nat n) hd (k H locs ls hP hS hl)
theorem g_alen4 (X : Cx p s m args c A D cA ad own cc mx) {n x id : Nat} {z : Int} (hd : decode cc pc = .ok (.arraylength, 1)) (hs : shp id = (4, x, n)) (hx : x = 3 ∨ x = 4 ∨ x = 5) (hz : (n : Int) = z) (k : Wg p l e R s m args below meth c A D cA ad cells slots G (pc + 1) lv (.int (iI z) :: st) σ) : Wg p l e R s m args below meth c A D cA ad cells slots G pc lv (.ref id :: st) σ := by
  intro H locs ls hP hS hl
  have ha : (wl cA ad σ)[id]? = some (ad id, .inl (cA x, n, .inr (.inr (.inr (.inr (fun j => some (ad (fin id j)))))))) := by rw [wl_get cA ad σ (shp_lt hs (by show 4 < 9; decide)), ent_4 hs]
  rcases hx with rfl | rfl | rfl
  · exact va_alen X.1 X.2.1 X.2.2.2.2.1 hP id 3 ha rfl (by rw [← hz]; exact iI_nat n) hd (k H locs ls hP hS hl)
  · exact va_alen X.1 X.2.1 X.2.2.2.2.1 hP id 4 ha rfl (by rw [← hz]; exact iI_nat n) hd (k H locs ls hP hS hl)
  · exact va_alen X.1 X.2.1 X.2.2.2.2.1 hP id 5 ha rfl (by rw [← hz]; exact iI_nat n) hd (k H locs ls hP hS hl)
theorem ix32 {i : Int} {n : Nat} (h0 : 0 ≤ i) (hn : i < (n : Int)) (hs : n < 2147483648) : i32 i := ⟨by omega, by omega⟩
theorem shp_len {id : Nat} {q : Nat × Nat × Nat} (h : shp id = q) : q.2.2 < 2147483648 := by
  subst h
  unfold shp
  rw [List.getD_eq_getElem?_getD]
  cases hq : shpL[id]? with
  | none => decide
  | some r =>
    have h1 : ∀ r ∈ shpL, r.2.2 < 2147483648 := by decide +kernel
    exact h1 r (List.mem_of_getElem? hq)
theorem g_iald (X : Cx p s m args c A D cA ad own cc mx) {n x id : Nat} {i : Int} (hd : decode cc pc = .ok (.iaload, 1)) (hs : shp id = (1, x, n)) (h0 : 0 ≤ i) (hi : i < (n : Int)) (k : Wg p l e R s m args below meth c A D cA ad cells slots G (pc + 1) lv (.int (iI (gI σ id i)) :: st) σ) : Wg p l e R s m args below meth c A D cA ad cells slots G pc lv (.int (iI i) :: .ref id :: st) σ := by
  intro H locs ls hP hS hl
  have hr := ix32 h0 hi (shp_len hs)
  refine va_iald X.1 X.2.1 X.2.2.2.2.1 hP id 0 (f := fun j => iI (σ.1 id (j : Int))) (by rw [wl_get cA ad σ (shp_lt hs (by show 1 < 9; decide)), ent_1 hs]) rfl (iI_in h0 hi hr) hd ?_
  rw [iI_clamp hr, Int.toNat_of_nonneg h0]
  exact k H locs ls hP hS hl
theorem g_zald (X : Cx p s m args c A D cA ad own cc mx) {n x id : Nat} {i : Int} (hd : decode cc pc = .ok (.baload, 1)) (hs : shp id = (3, x, n)) (h0 : 0 ≤ i) (hi : i < (n : Int)) (k : Wg p l e R s m args below meth c A D cA ad cells slots G (pc + 1) lv (.int (iI (gI σ id i)) :: st) σ) : Wg p l e R s m args below meth c A D cA ad cells slots G pc lv (.int (iI i) :: .ref id :: st) σ := by
  intro H locs ls hP hS hl
  have hr := ix32 h0 hi (shp_len hs)
  refine va_zald X.1 X.2.1 X.2.2.2.2.1 hP id 2 (f := fun j => iI (σ.1 id (j : Int))) (by rw [wl_get cA ad σ (shp_lt hs (by show 3 < 9; decide)), ent_3 hs]) rfl (iI_in h0 hi hr) hd ?_
  rw [iI_clamp hr, Int.toNat_of_nonneg h0]
  exact k H locs ls hP hS hl
theorem g_lald (X : Cx p s m args c A D cA ad own cc mx) {n x id : Nat} {i : Int} (hd : decode cc pc = .ok (.laload, 1)) (hs : shp id = (2, x, n)) (h0 : 0 ≤ i) (hi : i < (n : Int)) (k : Wg p l e R s m args below meth c A D cA ad cells slots G (pc + 1) lv (.long (lI (gL σ id i)) :: st) σ) : Wg p l e R s m args below meth c A D cA ad cells slots G pc lv (.int (iI i) :: .ref id :: st) σ := by
  intro H locs ls hP hS hl
  have hr := ix32 h0 hi (shp_len hs)
  refine va_lald X.1 X.2.1 X.2.2.2.2.1 hP id 1 (f := fun j => lI (σ.2.1 id (j : Int))) (by rw [wl_get cA ad σ (shp_lt hs (by show 2 < 9; decide)), ent_2 hs]) rfl (iI_in h0 hi hr) hd ?_
  rw [iI_clamp hr, Int.toNat_of_nonneg h0]
  exact k H locs ls hP hS hl
theorem g_aald (X : Cx p s m args c A D cA ad own cc mx) {n x id f : Nat} {i : Int} (hd : decode cc pc = .ok (.aaload, 1)) (hs : shp id = (4, x, n)) (hx : x = 3 ∨ x = 4 ∨ x = 5) (h0 : 0 ≤ i) (hi : i < (n : Int)) (hf : fin id i.toNat = f) (k : Wg p l e R s m args below meth c A D cA ad cells slots G (pc + 1) lv (.ref f :: st) σ) : Wg p l e R s m args below meth c A D cA ad cells slots G pc lv (.int (iI i) :: .ref id :: st) σ := by
  intro H locs ls hP hS hl
  have hr := ix32 h0 hi (shp_len hs)
  have ha : (wl cA ad σ)[id]? = some (ad id, .inl (cA x, n, .inr (.inr (.inr (.inr (fun j => some (ad (fin id j)))))))) := by rw [wl_get cA ad σ (shp_lt hs (by show 4 < 9; decide)), ent_4 hs]
  subst hf
  have key : ∀ (t : Nat) (C : String), (tyL cA)[t]? = some (cA x, .object C) → W p l e R s m args below meth c H locs cells slots G (F0 m pc ls (List.map (cv ad) (.int (iI i) :: .ref id :: st))) := by
    intro t C ht
    refine va_aldq X.1 X.2.1 X.2.2.2.2.1 hP id t ha ht (iI_in h0 hi hr) hd ?_
    rw [iI_clamp hr]
    exact k H locs ls hP hS hl
  rcases hx with rfl | rfl | rfl
  · exact key 3 _ rfl
  · exact key 4 _ rfl
  · exact key 5 _ rfl
theorem g_iast (X : Cx p s m args c A D cA ad own cc mx) {n x id : Nat} {i v : Int} (hd : decode cc pc = .ok (.iastore, 1)) (hs : shp id = (1, x, n)) (h0 : 0 ≤ i) (hi : i < (n : Int)) (k : Wg p l e R s m args below meth c A D cA ad cells slots G (pc + 1) lv st (sI σ id i v)) : Wg p l e R s m args below meth c A D cA ad cells slots G pc lv (.int (iI v) :: .int (iI i) :: .ref id :: st) σ := by
  intro H locs ls hP hS hl
  have hr := ix32 h0 hi (shp_len hs)
  have hid := shp_lt hs (by show 1 < 9; decide)
  refine va_iast X.1 X.2.1 X.2.2.2.2.1 hP (wl_D X.2.2.2.2.2.1 X.2.2.2.2.2.2.1) hS id 0 (f := fun j => iI (σ.1 id (j : Int))) (by rw [wl_get cA ad σ hid, ent_1 hs]) rfl (iI_in h0 hi hr) hd (fun H1 locs1 hP1 _ hS1 => ?_)
  rw [iI_clamp hr, upd_iI σ id i v h0, wl_set cA ad σ (sI σ id i v) hid (by rw [ent_1 hs]) (ent_other (fun b hb => by funext i; exact if_neg (fun q => hb q.1)) (fun _ _ => rfl) (fun _ _ => rfl))] at hP1
  exact k H1 locs1 ls hP1 hS1 hl
theorem g_zast (X : Cx p s m args c A D cA ad own cc mx) {n x id : Nat} {i v : Int} (hd : decode cc pc = .ok (.bastore, 1)) (hs : shp id = (3, x, n)) (h0 : 0 ≤ i) (hi : i < (n : Int)) (hv : vp_nar .boolean (iI v) = iI v) (k : Wg p l e R s m args below meth c A D cA ad cells slots G (pc + 1) lv st (sI σ id i v)) : Wg p l e R s m args below meth c A D cA ad cells slots G pc lv (.int (iI v) :: .int (iI i) :: .ref id :: st) σ := by
  intro H locs ls hP hS hl
  have hr := ix32 h0 hi (shp_len hs)
  have hid := shp_lt hs (by show 3 < 9; decide)
  refine va_zast X.1 X.2.1 X.2.2.2.2.1 hP (wl_D X.2.2.2.2.2.1 X.2.2.2.2.2.2.1) hS id 2 (f := fun j => iI (σ.1 id (j : Int))) (by rw [wl_get cA ad σ hid, ent_3 hs]) rfl (iI_in h0 hi hr) hd (fun H1 locs1 hP1 _ hS1 => ?_)
  rw [hv, iI_clamp hr, upd_iI σ id i v h0, wl_set cA ad σ (sI σ id i v) hid (by rw [ent_3 hs]) (ent_other (fun b hb => by funext i; exact if_neg (fun q => hb q.1)) (fun _ _ => rfl) (fun _ _ => rfl))] at hP1
  exact k H1 locs1 ls hP1 hS1 hl
theorem g_last (X : Cx p s m args c A D cA ad own cc mx) {n x id : Nat} {i v : Int} (hd : decode cc pc = .ok (.lastore, 1)) (hs : shp id = (2, x, n)) (h0 : 0 ≤ i) (hi : i < (n : Int)) (k : Wg p l e R s m args below meth c A D cA ad cells slots G (pc + 1) lv st (sL σ id i v)) : Wg p l e R s m args below meth c A D cA ad cells slots G pc lv (.long (lI v) :: .int (iI i) :: .ref id :: st) σ := by
  intro H locs ls hP hS hl
  have hr := ix32 h0 hi (shp_len hs)
  have hid := shp_lt hs (by show 2 < 9; decide)
  refine va_last X.1 X.2.1 X.2.2.2.2.1 hP (wl_D X.2.2.2.2.2.1 X.2.2.2.2.2.2.1) hS id 1 (f := fun j => lI (σ.2.1 id (j : Int))) (by rw [wl_get cA ad σ hid, ent_2 hs]) rfl (iI_in h0 hi hr) hd (fun H1 locs1 hP1 _ hS1 => ?_)
  rw [iI_clamp hr, upd_lI σ id i v h0, wl_set cA ad σ (sL σ id i v) hid (by rw [ent_2 hs]) (ent_other (fun _ _ => rfl) (fun b hb => by funext i; exact if_neg (fun q => hb q.1)) (fun _ _ => rfl))] at hP1
  exact k H1 locs1 ls hP1 hS1 hl
end GH
