/-! the class's bases: what each of their methods does -/
theorem sm_i {f : Int → Int} {k : Int} (h : 0 ≤ k) : sm f (k + 1).toNat = sm f k.toNat + f k := by
  rw [show (k + 1).toNat = k.toNat + 1 by omega]
  show sm f k.toNat + f (k.toNat : Int) = _
  rw [Int.toNat_of_nonneg h]
theorem i32_1 {x : Int} (h0 : 0 ≤ x) (h1 : x ≤ 1000) : i32 x := ⟨by omega, by omega⟩
theorem sp_isWithin {n a b : Int} {σ : ASt} {QT QF : ASt → Prop} (h1 : i32 n) (h2 : i32 a) (h3 : i32 b) (hT : a ≤ n → n ≤ b → QT σ) (hF : n < a ∨ b < n → QF σ) : EvZ K_X7_isWithin [.int (iI n), .int (iI a), .int (iI b)] σ QT QF :=
  eX7_isWithin h1 h2 h3 ⟨fun h => hF (Or.inl h), fun h => ⟨fun h' => hF (Or.inr h'), fun h' => hT h h'⟩⟩
theorem sp_isDigit {n : Int} {σ : ASt} {QT QF : ASt → Prop} (h1 : i32 n) (hT : 0 ≤ n → n ≤ 99 → QT σ) (hF : n < 0 ∨ 99 < n → QF σ) : EvZ K_X0_isDigit [.int (iI n)] σ QT QF :=
  eX0_isDigit (sp_isWithin h1 (by omega) (by omega) hT hF)
theorem sp_baseAt {i : Int} {σ : ASt} {Qn : ASt → Prop} {Qs : Nat → ASt → Prop} (hi : i32 i) (hs : 0 ≤ i → i < 3 → Qs (24 + i.toNat) σ) (hn : i < 0 ∨ 2 < i → Qn σ) : EvR 0 K_X7_baseAt [.ref 0, .int (iI i)] σ Qn Qs :=
  eX7_baseAt (sp_isWithin hi (by omega) (by omega) (fun h1 h2 => ⟨⟨h1, by omega⟩, hs h1 (by omega)⟩) hn)
theorem sp_reelAt {i : Int} {σ : ASt} {Qn : ASt → Prop} {Qs : Nat → ASt → Prop} (hi : i32 i) (hs : 0 ≤ i → i < 6 → Qs (42 + i.toNat) σ) (hn : i < 0 ∨ 5 < i → Qn σ) : EvR 4 K_X7_reelAt [.ref 0, .int (iI i)] σ Qn Qs :=
  eX7_reelAt (sp_isWithin hi (by omega) (by omega) (fun h1 h2 => ⟨⟨h1, by omega⟩, hs h1 (by omega)⟩) hn)
theorem sp_rowAt {i : Int} {σ : ASt} {Qn : ASt → Prop} {Qs : Nat → ASt → Prop} (hi : i32 i) (hs : 0 ≤ i → i < 3 → Qs (66 + i.toNat) σ) (hn : i < 0 ∨ 2 < i → Qn σ) : EvR 2 K_X7_rowAt [.ref 0, .int (iI i)] σ Qn Qs :=
  eX7_rowAt (sp_isWithin hi (by omega) (by omega) (fun h1 h2 => ⟨⟨h1, by omega⟩, hs h1 (by omega)⟩) hn)
/-- an object of Base holds the base (s, n, h) -/
def CB (σ : ASt) (o : Nat) (s : Int → Int) (n : Int) (h : Nat) : Prop :=
  gI σ o 3 = n ∧ gI σ o 4 = h ∧ gL σ o 5 = wo s h - 1 ∧ (∀ k : Int, 0 ≤ k → k < 43 → gI σ (o + 6) k = s k) ∧ (∀ k : Int, 0 ≤ k → k < h → gL σ (o + 12) k = wo s k.toNat)
theorem CB.ag {P : Nat → Prop} {σ τ : ASt} {o : Nat} {s : Int → Int} {n : Int} {h : Nat} (H : Ag P σ τ) (h0 : P o) (h1 : P (o + 6)) (h2 : P (o + 12)) (C : CB σ o s n h) : CB τ o s n h :=
  ⟨(H.I h0 3).trans C.1, (H.I h0 4).trans C.2.1, (H.L h0 5).trans C.2.2.1, fun k a b => (H.I h1 k).trans (C.2.2.2.1 k a b), fun k a b => (H.L h2 k).trans (C.2.2.2.2 k a b)⟩
/-- an int array of 43 places holds these digits -/
def CD (σ : ASt) (a : Nat) (d : Int → Int) : Prop := ∀ k : Int, 0 ≤ k → k < 43 → gI σ a k = d k
theorem CD.ag {P : Nat → Prop} {σ τ : ASt} {a : Nat} {d : Int → Int} (H : Ag P σ τ) (h0 : P a) (C : CD σ a d) : CD τ a d := fun k x y => (H.I h0 k).trans (C k x y)
/-- digits of a base with h worths -/
def DOK (d : Int → Int) (h : Nat) : Prop := (∀ k : Int, 0 ≤ k → k < h → 0 ≤ d k ∧ d k ≤ 99) ∧ ∀ k : Int, (k < 0 ∨ (h : Int) ≤ k) → d k = 0
theorem DOK.all {d : Int → Int} {h : Nat} (D : DOK d h) (k : Int) : 0 ≤ d k ∧ d k ≤ 99 := by
  by_cases q : 0 ≤ k ∧ k < h
  · exact D.1 k q.1 q.2
  · have := D.2 k (by omega)
    omega
theorem sp_hasPlace {o : Nat} (ho : shp o = (0, 0, 0)) {k : Int} {σ : ASt} {QT QF : ASt → Prop} {h : Nat} (hk : i32 k) (hh : gI σ o 4 = h) (h43 : h ≤ 43) (hT : 0 ≤ k → k < h → QT σ) (hF : k < 0 ∨ (h : Int) ≤ k → QF σ) : EvZ K_X0_hasPlace [.ref o, .int (iI k)] σ QT QF := by
  refine eX0_hasPlace ho hk ?_
  rw [hh]
  refine ⟨fun h1 => hF (Or.inl h1), fun h1 => ⟨by omega, fun h2 => hF (Or.inr h2), fun h2 => ⟨fun h3 => by omega, fun h3 => hT h1 h2⟩⟩⟩
/-- the value of digits below a place -/
def vf (s d : Int → Int) : Int → Int := fun k => d k * wo s k.toNat
def va (s d : Int → Int) (e : Nat) : Int := sm (vf s d) e
theorem vf_bound {s d : Int → Int} {h : Nat} {n : Int} (B : BOK s n h) (D : ∀ k : Int, 0 ≤ k → k < h → 0 ≤ d k ∧ d k ≤ 99) {k : Nat} (hk : k < h) : 0 ≤ vf s d k ∧ vf s d k ≤ 99000000000 := by
  have h1 := D k (by omega) (by omega)
  have h2 := B.2.2.2.2.2.1 k hk
  have h3 := wo_pos B.s1 k
  have h4 : 0 ≤ d k * wo s k := Int.mul_nonneg h1.1 (by omega)
  have h5 : d k * wo s k ≤ 99 * 1000000000 := Int.mul_le_mul h1.2 h2 (by omega) (by omega)
  unfold vf
  rw [Int.toNat_natCast]
  omega
theorem va_bound {s d : Int → Int} {h : Nat} {n : Int} (B : BOK s n h) (D : ∀ k : Int, 0 ≤ k → k < h → 0 ≤ d k ∧ d k ≤ 99) {e : Nat} (he : e ≤ h) : 0 ≤ va s d e ∧ va s d e ≤ 4257000000000 := by
  have h1 := sm_bound (f := vf s d) (M := 99000000000) (n := e) (fun k hk => vf_bound B D (by omega))
  have := B.h43
  unfold va
  omega
theorem sp_valueBelow {o a : Nat} (ho : shp o = (0, 0, 0)) (ha : shp a = (1, 0, 43)) {s d : Int → Int} {n : Int} {h e : Nat} (B : BOK s n h) (he : e ≤ h) {σ : ASt} {Q : Int → ASt → Prop} (C : CB σ o s n h) (hd : CD σ a d) (hr : ∀ k : Int, 0 ≤ k → k < h → 0 ≤ d k ∧ d k ≤ 99) (hq : Q (va s d e) σ) : EvL K_X0_valueBelow [.ref o, .ref a, .int (iI (e : Int))] σ Q := by
  have h43 := B.h43
  have lp : ∀ (m : Nat) (k : Int), 0 ≤ k → k + m = e → Wx K_X0_valueBelow (QL Q) 5 [(0, .ref o), (1, .ref a), (2, .int (iI (e : Int))), (3, .long (lI (sm (vf s d) k.toNat))), (5, .int (iI k))] [] σ := by
    intro m
    induction m with
    | zero =>
      intro k h0 hk
      have hb := va_bound B hr (e := k.toNat) (by omega)
      have hke : k.toNat = e := by omega
      refine bX0_valueBelow_5 ho ha (by omega) (by omega) (by unfold va at hb; omega) ⟨fun _ => by rw [hke]; exact hq, fun q => by omega⟩
    | succ m ih =>
      intro k h0 hk
      have hb := va_bound B hr (e := k.toNat) (by omega)
      have hdk := hr k h0 (by omega)
      refine bX0_valueBelow_5 ho ha (by omega) (by omega) (by unfold va at hb; omega) ⟨fun q => by omega, fun _ => ⟨fun q => by omega, fun _ => ⟨fun q => by omega, fun _ => ⟨⟨h0, by omega⟩, by rw [hd k h0 (by omega)]; omega, ?_⟩⟩⟩⟩
      rw [hd k h0 (by omega), C.2.2.2.2 k h0 (by omega), show sm (vf s d) k.toNat + d k * wo s k.toNat = sm (vf s d) (k + 1).toNat from (sm_i h0).symm]
      exact ih (k + 1) (by omega) (by omega)
  exact eX0_valueBelow ho ha (lp e 0 (by omega) (by omega))
theorem sp_valueOf {o a : Nat} (ho : shp o = (0, 0, 0)) (ha : shp a = (1, 0, 43)) {s d : Int → Int} {n : Int} {h : Nat} (B : BOK s n h) {σ : ASt} {Q : Int → ASt → Prop} (C : CB σ o s n h) (hd : CD σ a d) (hr : ∀ k : Int, 0 ≤ k → k < h → 0 ≤ d k ∧ d k ≤ 99) (hq : Q (va s d h) σ) : EvL K_X0_valueOf [.ref o, .ref a] σ Q := by
  refine eX0_valueOf ho ha ?_
  rw [C.2.1]
  exact sp_valueBelow ho ha B (Nat.le_refl _) C hd hr hq
/-! greedy digits -/
/-- what is left of v when the j greatest of h worths are taken -/
def rs (s : Int → Int) (h : Nat) (v : Int) : Nat → Int
  | 0 => v
  | j + 1 => rs s h v j % wo s (h - 1 - j)
def gd (s : Int → Int) (h : Nat) (v : Int) (k : Int) : Int := if 0 ≤ k ∧ k < (h : Int) then rs s h v (h - 1 - k.toNat) / wo s k.toNat else 0
theorem rs_nonneg {s : Int → Int} (hs : ∀ k : Int, 0 ≤ k → 1 ≤ s k) {h : Nat} {v : Int} (hv : 0 ≤ v) : ∀ j : Nat, 0 ≤ rs s h v j
  | 0 => hv
  | j + 1 => Int.emod_nonneg _ (by have := wo_pos hs (h - 1 - j); omega)
theorem rs_lt {s : Int → Int} (hs : ∀ k : Int, 0 ≤ k → 1 ≤ s k) {h : Nat} {v : Int} (hv : v < wo s h) : ∀ j : Nat, j ≤ h → rs s h v j < wo s (h - j)
  | 0, _ => by rw [Nat.sub_zero]; exact hv
  | j + 1, hj => by
    have h1 := Int.emod_lt_of_pos (rs s h v j) (show 0 < wo s (h - 1 - j) by have := wo_pos hs (h - 1 - j); omega)
    rw [show h - (j + 1) = h - 1 - j by omega]
    exact h1
theorem emod_le_self {a b : Int} (h : 0 ≤ a) (hb : 0 < b) : a % b ≤ a := by
  rw [Int.emod_def]
  have h1 := Int.mul_nonneg (Int.le_of_lt hb) (Int.ediv_nonneg h (Int.le_of_lt hb))
  omega
theorem rs_le {s : Int → Int} (hs : ∀ k : Int, 0 ≤ k → 1 ≤ s k) {h : Nat} {v : Int} (hv : 0 ≤ v) : ∀ j : Nat, rs s h v j ≤ v
  | 0 => Int.le_refl _
  | j + 1 => by
    have h1 := rs_le hs (h := h) hv j
    have h2 := rs_nonneg hs (h := h) hv j
    have h3 := emod_le_self h2 (show 0 < wo s (h - 1 - j) by have := wo_pos hs (h - 1 - j); omega)
    exact Int.le_trans h3 h1
/-- a greedy digit is no more than its step -/
theorem gd_le {s : Int → Int} {n : Int} {h : Nat} (B : BOK s n h) {v : Int} (h0 : 0 ≤ v) (hv : v < wo s h) (k : Int) (hk : 0 ≤ k) : 0 ≤ gd s h v k ∧ gd s h v k ≤ s k := by
  have hs := B.s1
  have hsk := hs k hk
  unfold gd
  by_cases q : 0 ≤ k ∧ k < (h : Int)
  · rw [if_pos q]
    have h1 := rs_nonneg hs (h := h) h0 (h - 1 - k.toNat)
    have h2 := rs_lt hs hv (h - 1 - k.toNat) (by omega)
    rw [show h - (h - 1 - k.toNat) = k.toNat + 1 by omega] at h2
    have h3 := wo_pos hs k.toNat
    refine ⟨Int.ediv_nonneg h1 (by omega), ?_⟩
    refine Int.lt_add_one_iff.mp (Int.ediv_lt_of_lt_mul (by omega) ?_)
    by_cases hk0 : k = 0
    · subst hk0
      simp only [Int.toNat_zero, wo] at h2 ⊢
      omega
    · have e := wo_step (s := s) k.toNat (by omega)
      rw [Int.toNat_of_nonneg hk] at e
      rw [e] at h2
      have h4 := wo_lt hs (k.toNat - 1)
      rw [show k.toNat - 1 + 1 = k.toNat by omega] at h4
      rw [Int.add_mul]
      omega
  · rw [if_neg q]; omega
theorem gd_DOK {s : Int → Int} {n : Int} {h : Nat} (B : BOK s n h) {v : Int} (h0 : 0 ≤ v) (hv : v < wo s h) : DOK (gd s h v) h := by
  refine ⟨fun k a b => ?_, fun k q => if_neg (by omega)⟩
  have h1 := gd_le B h0 hv k a
  have h2 := (B.2.2.1 k a).2
  omega
theorem sp_greedyInto {o a : Nat} (ho : shp o = (0, 0, 0)) (ha : shp a = (1, 0, 43)) {s : Int → Int} {n : Int} {h : Nat} (B : BOK s n h) {σ : ASt} {Q : ASt → Prop} {v : Int} (C : CB σ o s n h) (hv : 0 ≤ v) (hv2 : i64 v) (hq : ∀ τ, Ag (fun b => b ≠ a) σ τ → CD τ a (gd s h v) → Q τ) : EvV K_X0_greedyInto [.ref o, .ref a, .long (lI v)] σ Q := by
  have h43 := B.h43
  have hs := B.s1
  have hne : o ≠ a := fun q => by rw [q, ha] at ho; cases ho
  have hne2 : o + 12 ≠ a := fun q => by rw [← q, sf_0_2 ho] at ha; cases ha
  have hne1 : o + 6 ≠ a ∨ o + 6 = a := by omega
  have lp : ∀ (m : Nat) (τ : ASt) (w : Int), m ≤ 43 → Ag (fun b => b ≠ a) σ τ → (∀ k : Int, (m : Int) ≤ k → k < 43 → gI τ a k = gd s h v k) → w = rs s h v (h - m) → Wx K_X0_greedyInto (QV Q) 9 [(0, .ref o), (1, .ref a), (4, .long (lI w)), (6, .int (iI ((m : Int) - 1)))] [] τ := by
    intro m
    induction m with
    | zero =>
      intro τ w _ hA hk hw
      have hw0 := rs_nonneg hs (h := h) hv (h - 0)
      have hw1 := rs_le hs (h := h) hv (h - 0)
      refine bX0_greedyInto_9 ho ha (by omega) (by omega) ⟨fun _ => hq τ hA (fun k h1 h2 => hk k (by omega) h2), fun q => by omega⟩
    | succ m ih =>
      intro τ w hm hA hk hw
      have hw0 := rs_nonneg hs (h := h) hv (h - (m + 1))
      have hw1 := rs_le hs (h := h) hv (h - (m + 1))
      have e1 : (((m + 1 : Nat) : Int) - 1) = (m : Int) := by omega
      rw [e1]
      refine bX0_greedyInto_9 ho ha (by omega) (by omega) ⟨fun q => by omega, fun _ => ?_⟩
      have e2 : (m : Int) + (-1) = (m : Int) - 1 := by omega
      rw [e2]
      have hst : ∀ (x : Int), x = gd s h v m → ∀ k : Int, (m : Int) ≤ k → k < 43 → gI (sI τ a (m : Int) x) a k = gd s h v k := by
        intro x hx k h1 h2
        by_cases hkm : k = m
        · rw [hkm, gI_self, hx]
        · rw [gI_ne _ _ _ hkm]; exact hk k (by omega) h2
      have hAg : ∀ x : Int, Ag (fun b => b ≠ a) σ (sI τ a (m : Int) x) := fun x => hA.trans (ag_sI (fun _ z => z))
      refine sp_hasPlace ho (by omega) ((hA.I hne 4).trans C.2.1) h43 (fun g1 g2 => ⟨⟨by omega, by omega⟩, ?_⟩) (fun g => ⟨⟨by omega, by omega⟩, ?_⟩)
      · have ew : gL τ (o + 12) (m : Int) = wo s m := by
          rw [hA.L hne2]
          have := C.2.2.2.2 (m : Int) (by omega) g2
          rwa [Int.toNat_natCast] at this
        have hp := wo_pos hs m
        have hu := B.2.2.2.2.2.1 m (by omega)
        rw [ew]
        refine ⟨by omega, fun q => by omega, fun _ => ⟨by omega, ?_⟩⟩
        have hdiv : Int.tdiv w (wo s m) = w / wo s m := Int.tdiv_eq_ediv_of_nonneg (by omega)
        rw [hdiv]
        have em : h - (m + 1) = h - 1 - m := by omega
        refine ih _ _ (by omega) (hAg _) (hst _ ?_) ?_
        · unfold gd
          rw [if_pos ⟨by omega, by omega⟩, Int.toNat_natCast, hw, em]
        · rw [hw, show h - m = (h - (m + 1)) + 1 by omega]
          show _ = rs s h v (h - (m + 1)) % wo s (h - 1 - (h - (m + 1)))
          rw [show h - 1 - (h - (m + 1)) = m by omega, Int.emod_def, Int.mul_comm]
      · have e0 : w - 0 * 0 = w := by omega
        rw [e0]
        refine ih _ _ (by omega) (hAg _) (hst _ ?_) ?_
        · unfold gd
          rw [if_neg (by omega)]
        · rw [hw, show h - m = 0 by omega, show h - (m + 1) = 0 by omega]
  refine eX0_greedyInto ho ha ?_
  have e3 : (43 - 1 : Int) = ((43 : Nat) : Int) - 1 := by omega
  rw [e3]
  exact lp 43 σ v (Nat.le_refl _) Ag.rf (fun k h1 h2 => by omega) (by rw [show h - 43 = 0 by omega]; rfl)
