/-! the world: a fixed layout of numbered objects and arrays; a state: what the int places, the long places, the changing references hold -/
abbrev ASt : Type := (Nat → Int → Int) × (Nat → Int → Int) × (Nat → Nat → Option Nat)
/-- kind (0 object, 1 ints, 2 longs, 3 booleans, 4 references), class, length -/
def shpL : List (Nat × Nat × Nat) :=
  [(0,7,0), (4,3,3), (4,3,3), (4,4,6), (4,4,6), (4,5,3), (1,0,43), (1,0,43), (1,0,128), (0,6,0), (1,0,80), (0,1,0), (1,0,12), (1,0,516), (0,3,0), (1,0,10)]
  ++ List.replicate 2 (0,5,0) ++ List.replicate 2 (2,0,1300) ++ List.replicate 2 (2,0,1300) ++ List.replicate 2 (1,0,1300)
  ++ List.replicate 6 (0,0,0) ++ List.replicate 6 (1,0,43) ++ List.replicate 6 (2,0,43)
  ++ List.replicate 12 (0,4,0) ++ List.replicate 12 (1,0,43)
  ++ List.replicate 3 (0,2,0) ++ List.replicate 3 (2,0,60)
  ++ [(0,8,0), (1,0,24), (1,0,3), (1,0,3), (2,0,150), (2,0,3), (1,0,6), (1,0,300), (1,0,50), (1,0,12), (1,0,600),
      (2,0,16384), (2,0,16384), (1,0,16384), (1,0,16384), (2,0,16384), (2,0,16384), (1,0,16384),
      (1,0,50), (1,0,160), (1,0,80), (3,0,3), (1,0,3), (2,0,180), (2,0,60), (1,0,24), (1,0,3), (1,0,6), (1,0,300)]
def shp (id : Nat) : Nat × Nat × Nat := shpL.getD id (9, 0, 0)
/-- a class's fields: 0 int, 1 long, 2 a reference that stays, 3 one that changes -/
def ftyL : List (List Nat) :=
  [[0,2,2,0,0,1], [2,2,0], [2,0], [3,3,2], [3,2], [2,2,2,0], [2,0], [2,2,2,2,2,2,2,2,0,2,2,2],
   [2,2,2,2,2,2,2,2,2,2,0,2,2,2,2,0,2,2,2,0,2,2,2,0,0,2,2,2,2,2,2,2,2,0]]
def fty (ci : Nat) : List Nat := ftyL.getD ci []
/-- the references that stay: of an object's field, of an array's place -/
def fin (id j : Nat) : Nat :=
  if id = 0 then [1, 3, 5, 9, 11, 14, 2, 4, 0, 6, 7, 8].getD j 0
  else if id = 1 then 24 + j
  else if id = 2 then 27 + j
  else if id = 3 then 42 + j
  else if id = 4 then 48 + j
  else if id = 5 then 66 + j
  else if id = 9 then 10
  else if id = 11 then 12 + j
  else if id = 14 then 15
  else if id = 16 ∨ id = 17 then id + 2 + 2 * j
  else if 24 ≤ id ∧ id < 30 then id + 6 * j
  else if 42 ≤ id ∧ id < 54 then id + 12
  else if 66 ≤ id ∧ id < 69 then id + 3
  else if id = 72 then [73,74,75,76,77,78,79,80,81,82,0,83,84,85,86,0,87,88,89,0,90,91,92,0,0,93,94,95,96,97,98,99,100,0].getD j 0
  else 0
def NN : Nat := 101
def cv (ad : Nat → Nat) (v : Value) : Value := match v with
  | .ref a => .ref (ad a)
  | w => w
def cvp (ad : Nat → Nat) (q : Nat × Value) : Nat × Value := (q.1, cv ad q.2)
def entF (ad : Nat → Nat) (σ : ASt) (id j t : Nat) : Value :=
  if t = 0 then .int (iI (σ.1 id (j : Int))) else if t = 1 then .long (lI (σ.2.1 id (j : Int))) else if t = 2 then .ref (ad (fin id j)) else va_rf ((σ.2.2 id j).map ad)
def ent (cA : Nat → ClassId) (ad : Nat → Nat) (σ : ASt) (id : Nat) : va_E :=
  if (shp id).1 = 0 then .inr ((shp id).2.1, (fty (shp id).2.1).mapIdx (fun j t => entF ad σ id j t))
  else if (shp id).1 = 1 then .inl (cA 0, (shp id).2.2, .inl (fun j => iI (σ.1 id (j : Int))))
  else if (shp id).1 = 2 then .inl (cA 1, (shp id).2.2, .inr (.inl (fun j => lI (σ.2.1 id (j : Int)))))
  else if (shp id).1 = 3 then .inl (cA 2, (shp id).2.2, .inl (fun j => iI (σ.1 id (j : Int))))
  else .inl (cA (shp id).2.1, (shp id).2.2, .inr (.inr (.inr (.inr (fun j => some (ad (fin id j)))))))
def wl (cA : Nat → ClassId) (ad : Nat → Nat) (σ : ASt) : va_W := (List.range NN).map (fun id => (ad id, ent cA ad σ id))
def tyL (cA : Nat → ClassId) : List (ClassId × FieldType) := [(cA 0, .int), (cA 1, .long), (cA 2, .boolean), (cA 3, .object RX0), (cA 4, .object RX4), (cA 5, .object RX2)]
theorem shp_lt {id : Nat} {q : Nat × Nat × Nat} (h : shp id = q) (hq : q.1 < 9) : id < NN := by
  by_cases hl : id < NN
  · exact hl
  · exfalso
    have h1 : shpL.length ≤ id := by
      have : shpL.length = NN := by decide +kernel
      omega
    unfold shp at h
    rw [List.getD_eq_getElem?_getD, List.getElem?_eq_none h1] at h
    subst h
    exact absurd hq (by decide)
theorem wl_get (cA : Nat → ClassId) (ad : Nat → Nat) (σ : ASt) {id : Nat} (h : id < NN) : (wl cA ad σ)[id]? = some (ad id, ent cA ad σ id) := by
  unfold wl
  rw [List.getElem?_map, List.getElem?_range h]
  rfl
theorem wl_set (cA : Nat → ClassId) (ad : Nat → Nat) (σ σ' : ASt) {id : Nat} {e : va_E} (h : id < NN) (he : ent cA ad σ' id = e) (ho : ∀ k, k ≠ id → ent cA ad σ' k = ent cA ad σ k) : (wl cA ad σ).set id (ad id, e) = wl cA ad σ' := by
  apply List.ext_getElem?
  intro k
  have hlen : (wl cA ad σ).length = NN := by simp [wl]
  by_cases hk : k < NN
  · rw [wl_get cA ad σ' hk]
    by_cases hki : k = id
    · subst hki
      rw [List.getElem?_set_self (by omega), he]
    · rw [List.getElem?_set_ne (fun q => hki q.symm), wl_get cA ad σ hk, ho k hki]
  · rw [List.getElem?_eq_none (by simp [hlen]; omega), List.getElem?_eq_none (by simp [wl]; omega)]
def adInj (ad : Nat → Nat) : Prop := ∀ i j : Nat, i < NN → j < NN → ad i = ad j → i = j
def adA (ad : Nat → Nat) : Nat → Prop := fun q => ∃ i : Nat, i < NN ∧ q = ad i
theorem wl_D {A : Nat → Prop} {cA : Nat → ClassId} {ad : Nat → Nat} {σ : ASt} (h1 : adInj ad) (h2 : ∀ i, i < NN → A (ad i)) : va_D A (wl cA ad σ) := by
  have key : ∀ (k : Nat) (q : Nat × va_E), (wl cA ad σ)[k]? = some q → k < NN ∧ q.1 = ad k := by
    intro k q hk
    have hl : k < NN := by
      have := (List.getElem?_eq_some_iff.mp hk).1
      simpa [wl] using this
    rw [wl_get cA ad σ hl] at hk
    cases hk
    exact ⟨hl, rfl⟩
  refine ⟨fun i j p q hi hj hpq => ?_, fun k q hk => ?_⟩
  · obtain ⟨a1, a2⟩ := key i p hi
    obtain ⟨b1, b2⟩ := key j q hj
    exact h1 i j a1 b1 (by rw [← a2, ← b2, hpq])
  · obtain ⟨a1, a2⟩ := key k q hk
    rw [a2]
    exact h2 k a1
/-! writing to a state -/
def gI (σ : ASt) (a : Nat) (i : Int) : Int := σ.1 a i
def gL (σ : ASt) (a : Nat) (i : Int) : Int := σ.2.1 a i
def gP (σ : ASt) (a : Nat) (i : Nat) : Option Nat := σ.2.2 a i
def sI (σ : ASt) (a : Nat) (i v : Int) : ASt := (fun b j => if b = a ∧ j = i then v else σ.1 b j, σ.2.1, σ.2.2)
def sL (σ : ASt) (a : Nat) (i v : Int) : ASt := (σ.1, fun b j => if b = a ∧ j = i then v else σ.2.1 b j, σ.2.2)
def sP (σ : ASt) (a : Nat) (i : Nat) (v : Option Nat) : ASt := (σ.1, σ.2.1, fun b j => if b = a ∧ j = i then v else σ.2.2 b j)
/-- all of an int array (a long array) anew -/
def uI (σ : ASt) (a : Nat) (f : Int → Int) : ASt := (fun b => if b = a then f else σ.1 b, σ.2.1, σ.2.2)
def uL (σ : ASt) (a : Nat) (f : Int → Int) : ASt := (σ.1, fun b => if b = a then f else σ.2.1 b, σ.2.2)
theorem ent_other {cA : Nat → ClassId} {ad : Nat → Nat} {σ σ' : ASt} {a : Nat} (h1 : ∀ b, b ≠ a → σ'.1 b = σ.1 b) (h2 : ∀ b, b ≠ a → σ'.2.1 b = σ.2.1 b) (h3 : ∀ b, b ≠ a → σ'.2.2 b = σ.2.2 b) : ∀ k, k ≠ a → ent cA ad σ' k = ent cA ad σ k := by
  intro k hk
  unfold ent entF
  rw [h1 k hk, h2 k hk, h3 k hk]
theorem ent_1 {cA : Nat → ClassId} {ad : Nat → Nat} {σ : ASt} {a n x : Nat} (h : shp a = (1, x, n)) : ent cA ad σ a = .inl (cA 0, n, .inl (fun j => iI (σ.1 a (j : Int)))) := by
  unfold ent; rw [h]; rfl
theorem ent_2 {cA : Nat → ClassId} {ad : Nat → Nat} {σ : ASt} {a n x : Nat} (h : shp a = (2, x, n)) : ent cA ad σ a = .inl (cA 1, n, .inr (.inl (fun j => lI (σ.2.1 a (j : Int))))) := by
  unfold ent; rw [h]; rfl
theorem ent_3 {cA : Nat → ClassId} {ad : Nat → Nat} {σ : ASt} {a n x : Nat} (h : shp a = (3, x, n)) : ent cA ad σ a = .inl (cA 2, n, .inl (fun j => iI (σ.1 a (j : Int)))) := by
  unfold ent; rw [h]; rfl
theorem ent_4 {cA : Nat → ClassId} {ad : Nat → Nat} {σ : ASt} {a n x : Nat} (h : shp a = (4, x, n)) : ent cA ad σ a = .inl (cA x, n, .inr (.inr (.inr (.inr (fun j => some (ad (fin a j))))))) := by
  unfold ent; rw [h]; rfl
theorem ent_0 {cA : Nat → ClassId} {ad : Nat → Nat} {σ : ASt} {a n x : Nat} (h : shp a = (0, x, n)) : ent cA ad σ a = .inr (x, (fty x).mapIdx (fun j t => entF ad σ a j t)) := by
  unfold ent; rw [h]; rfl
theorem upd_iI (σ : ASt) (a : Nat) (i v : Int) (h : 0 ≤ i) : upd (fun j => iI (σ.1 a (j : Int))) i.toNat (iI v) = fun (j : Nat) => iI ((sI σ a i v).1 a (j : Int)) := by
  funext j
  unfold upd sI
  dsimp only
  by_cases hj : j = i.toNat
  · rw [if_pos hj, if_pos ⟨rfl, by omega⟩]
  · rw [if_neg hj, if_neg (fun q => hj (by have := q.2; omega))]
theorem upd_lI (σ : ASt) (a : Nat) (i v : Int) (h : 0 ≤ i) : vp_updL (fun j => lI (σ.2.1 a (j : Int))) i.toNat (lI v) = fun (j : Nat) => lI ((sL σ a i v).2.1 a (j : Int)) := by
  funext j
  unfold vp_updL sL
  dsimp only
  by_cases hj : j = i.toNat
  · rw [if_pos hj, if_pos ⟨rfl, by omega⟩]
  · rw [if_neg hj, if_neg (fun q => hj (by have := q.2; omega))]
theorem cv_cat (ad : Nat → Nat) (v : Value) : (cv ad v).category = v.category := by cases v <;> rfl
