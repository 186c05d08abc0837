/-! carries, settling, shifts, kinds, legal digits -/
def cN (s : Int → Int) (k : Int) : Int := if k = 0 then s 0 + 1 else s k
/-- whether a carry at place k by z (a borrow by -1) can be -/
def canC (s : Int → Int) (h : Nat) (d : Int → Int) (k z : Int) : Prop :=
  0 ≤ k ∧ k + 1 < (h : Int) ∧ (0 ≤ d (k + 1) + z ∧ d (k + 1) + z ≤ 99) ∧ (0 ≤ d k - z * cN s k ∧ d k - z * cN s k ≤ 99) ∧ (k = 0 ∨ (0 ≤ d (k - 1) - z ∧ d (k - 1) - z ≤ 99))
def crr (s d : Int → Int) (k z j : Int) : Int := if j = k + 1 then d j + z else if j = k then d j - z * cN s k else if j = k - 1 ∧ 0 < k then d j - z else d j
theorem cN_b {s : Int → Int} {n : Int} {h : Nat} (B : BOK s n h) {k : Int} (hk : 0 ≤ k) : 1 ≤ cN s k ∧ cN s k ≤ 10 := by
  have h1 := B.2.2.1 k hk
  have h2 := B.2.2.1 0 (by omega)
  unfold cN
  by_cases q : k = 0
  · rw [if_pos q]; omega
  · rw [if_neg q]; omega
theorem sp_carried {o : Nat} (ho : shp o = (0, 0, 0)) {s : Int → Int} {n : Int} {h : Nat} (B : BOK s n h) {σ : ASt} (C : CB σ o s n h) {Q : Int → ASt → Prop} {k : Int} (h0 : 0 ≤ k) (h1 : k < 43) (hq : Q (cN s k) σ) : EvI K_X0_carried [.ref o, .int (iI k)] σ Q := by
  have e1 := C.2.2.2.1 k h0 h1
  have e2 := C.2.2.2.1 0 (by omega) (by omega)
  have b1 := B.2.2.1 k h0
  have b2 := B.2.2.1 0 (by omega)
  unfold cN at hq
  refine eX0_carried ho (by omega) ⟨fun q => ⟨⟨h0, h1⟩, by rw [e1]; omega, ?_⟩, fun q => ⟨by rw [e2]; omega, ?_⟩⟩
  · rw [e1]; rwa [if_neg q] at hq
  · rw [e2]; rwa [if_pos q] at hq
theorem sp_canCarry {o a : Nat} (ho : shp o = (0, 0, 0)) (ha : shp a = (1, 0, 43)) {s d : Int → Int} {n : Int} {h : Nat} (B : BOK s n h) (D : DOK d h) {σ : ASt} (C : CB σ o s n h) (hd : CD σ a d) {QT QF : ASt → Prop} {k z : Int} (hz : z = 1 ∨ z = -1) (h0 : 0 ≤ k) (h1 : k ≤ 42) (hT : canC s h d k z → QT σ) (hF : ¬ canC s h d k z → QF σ) : EvZ K_X0_canCarry [.ref o, .ref a, .int (iI k), .int (iI z)] σ QT QF := by
  have h43 := B.h43
  have cb := cN_b B h0
  have d1 := D.all (k + 1)
  have d2 := D.all k
  have d3 := D.all (k - 1)
  have zc : z * cN s k = cN s k ∨ z * cN s k = - cN s k := by
    rcases hz with rfl | rfl
    · left; omega
    · right; omega
  refine eX0_canCarry ho ha (by omega) ?_
  refine sp_hasPlace ho (by omega) C.2.1 h43 (fun _ g2 => ?_) (fun g => hF (fun q => by have := q.2.1; omega))
  refine sp_hasPlace ho (by omega) C.2.1 h43 (fun _ g3 => ⟨⟨by omega, by omega⟩, ?_⟩) (fun g => hF (fun q => by have := q.2.1; omega))
  rw [hd (k + 1) (by omega) (by omega)]
  refine sp_isDigit (by omega) (fun a1 a2 => ⟨⟨h0, by omega⟩, ?_⟩) (fun g => hF (fun q => by have := q.2.2.1; omega))
  refine sp_carried ho B C h0 (by omega) ?_
  rw [hd k h0 (by omega)]
  refine sp_isDigit (by omega) (fun a3 a4 => ⟨fun k0 => hT ⟨h0, g3, ⟨a1, a2⟩, ⟨a3, a4⟩, Or.inl k0⟩, fun k0 => ⟨⟨by omega, by omega⟩, ?_⟩⟩) (fun g => hF (fun q => by have := q.2.2.2.1; omega))
  rw [hd (k - 1) (by omega) (by omega)]
  refine sp_isDigit (by omega) (fun a5 a6 => hT ⟨h0, g3, ⟨a1, a2⟩, ⟨a3, a4⟩, Or.inr ⟨a5, a6⟩⟩) (fun g => hF (fun q => by have := q.2.2.2.2; omega))
theorem crr_DOK {s d : Int → Int} {h : Nat} {k z : Int} (D : DOK d h) (hc : canC s h d k z) : DOK (crr s d k z) h := by
  obtain ⟨c1, c2, c3, c4, c5⟩ := hc
  refine ⟨fun j a b => ?_, fun j q => ?_⟩
  · unfold crr
    have := D.1 j a b
    by_cases e1 : j = k + 1
    · rw [if_pos e1, e1]; exact c3
    · rw [if_neg e1]
      by_cases e2 : j = k
      · rw [if_pos e2, e2]; exact c4
      · rw [if_neg e2]
        by_cases e3 : j = k - 1 ∧ 0 < k
        · rw [if_pos e3, e3.1]
          rcases c5 with c5 | c5
          · omega
          · exact c5
        · rw [if_neg e3]; exact this
  · unfold crr
    rw [if_neg (by omega), if_neg (by omega), if_neg (by omega)]
    exact D.2 j q
theorem sp_carryOnce {o a : Nat} (ho : shp o = (0, 0, 0)) (ha : shp a = (1, 0, 43)) (hna : o + 6 ≠ a) {s d : Int → Int} {n : Int} {h : Nat} (B : BOK s n h) (D : DOK d h) {σ : ASt} (C : CB σ o s n h) (hd : CD σ a d) {Q : ASt → Prop} {k z : Int} (hz : z = 1 ∨ z = -1) (hc : canC s h d k z) (hq : ∀ τ, Ag (fun b => b ≠ a) σ τ → CD τ a (crr s d k z) → Q τ) : EvV K_X0_carryOnce [.ref o, .ref a, .int (iI k), .int (iI z)] σ Q := by
  have h43 := B.h43
  have h0 := hc.1
  have h1 := hc.2.1
  have hne : o ≠ a := fun q => by rw [q, ha] at ho; cases ho
  have hne2 : o + 12 ≠ a := fun q => by rw [← q, sf_0_2 ho] at ha; cases ha
  have d1 := hd (k + 1) (by omega) (by omega)
  have d2 := hd k h0 (by omega)
  refine eX0_carryOnce ho ha (by omega) ?_
  refine sp_canCarry ho ha B D C hd hz h0 (by omega) (fun _ => ⟨⟨by omega, by omega⟩, ⟨h0, by omega⟩, ?_⟩) (fun q => absurd hc q)
  have A1 : Ag (fun b => b ≠ a) σ (sI σ a (k + 1) (gI σ a (k + 1) + z)) := ag_sI (fun _ q => q)
  refine sp_carried ho B (C.ag A1 hne hna hne2) h0 (by omega) ⟨fun k0 => ?_, fun k0 => ⟨⟨by omega, by omega⟩, ?_⟩⟩
  · refine hq _ (A1.trans (ag_sI (fun _ q => q))) (fun j j0 j1 => ?_)
    have dj := hd j j0 j1
    simp only [gI_sI, true_and, crr]
    grind
  · have d3 := hd (k - 1) (by omega) (by omega)
    refine hq _ ((A1.trans (ag_sI (fun _ q => q))).trans (ag_sI (fun _ q => q))) (fun j j0 j1 => ?_)
    have dj := hd j j0 j1
    simp only [gI_sI, true_and, crr]
    grind
/-- the greatest place, no higher than f, where a carry can be; below nothing: there is none -/
def hcP (s : Int → Int) (h : Nat) (d : Int → Int) (f r : Int) : Prop := (r = -1 ∧ ∀ j : Int, 0 ≤ j → j ≤ f → ¬ canC s h d j 1) ∨ (0 ≤ r ∧ r ≤ f ∧ canC s h d r 1 ∧ ∀ j : Int, r < j → j ≤ f → ¬ canC s h d j 1)
theorem sp_highestCarry {o a : Nat} (ho : shp o = (0, 0, 0)) (ha : shp a = (1, 0, 43)) {s d : Int → Int} {n : Int} {h : Nat} (B : BOK s n h) (D : DOK d h) {σ : ASt} (C : CB σ o s n h) (hd : CD σ a d) {Q : Int → ASt → Prop} {f : Int} (hf0 : -1 ≤ f) (hf : f ≤ 42) (hq : ∀ r, hcP s h d f r → Q r σ) : EvI K_X0_highestCarry [.ref o, .ref a, .int (iI f)] σ Q := by
  have lp : ∀ (m : Nat) (k : Int), k + 1 = m → k ≤ f → (∀ j : Int, k < j → j ≤ f → ¬ canC s h d j 1) → Wx K_X0_highestCarry (QI Q) 2 [(0, .ref o), (1, .ref a), (3, .int (iI k))] [] σ := by
    intro m
    induction m with
    | zero =>
      intro k hk hkf hn
      have e : k = -1 := by omega
      subst e
      exact bX0_highestCarry_2 ho ha (by omega) ⟨fun _ => hq _ (Or.inl ⟨rfl, fun j a b => hn j (by omega) b⟩), fun q => by omega⟩
    | succ m ih =>
      intro k hk hkf hn
      refine bX0_highestCarry_2 ho ha (by omega) ⟨fun q => by omega, fun q => ?_⟩
      refine sp_canCarry ho ha B D C hd (Or.inl rfl) q (by omega) (fun g => hq _ (Or.inr ⟨q, hkf, g, hn⟩)) (fun g => ?_)
      refine ih (k + -1) (by omega) (by omega) (fun j a b => ?_)
      by_cases e : j = k
      · rw [e]; exact g
      · exact hn j (by omega) b
  exact eX0_highestCarry ho ha (lp (f + 1).toNat f (by omega) (Int.le_refl _) (fun j a b => by omega))
/-! settling: n carries, each at the greatest place where one can be, till there is none -/
def Stl (s : Int → Int) (h : Nat) : Nat → (Int → Int) → (Int → Int) → Prop
  | 0, d, d' => (∀ k : Int, ¬ canC s h d k 1) ∧ d' = d
  | n + 1, d, d' => ∃ k : Int, canC s h d k 1 ∧ (∀ j : Int, k < j → ¬ canC s h d j 1) ∧ Stl s h n (crr s d k 1) d'
theorem Stl.unique {s : Int → Int} {h : Nat} : ∀ {n m : Nat} {d d' d'' : Int → Int}, Stl s h n d d' → Stl s h m d d'' → n = m ∧ d' = d''
  | 0, 0, _, _, _, a, b => ⟨rfl, a.2.trans b.2.symm⟩
  | 0, m + 1, _, _, _, a, ⟨k, b, _⟩ => absurd b (a.1 k)
  | n + 1, 0, _, _, _, ⟨k, a, _⟩, b => absurd a (b.1 k)
  | n + 1, m + 1, d, _, _, ⟨k, a1, a2, a3⟩, ⟨j, b1, b2, b3⟩ => by
    have e : k = j := by
      rcases Int.lt_trichotomy k j with q | q | q
      · exact absurd b1 (a2 j q)
      · exact q
      · exact absurd a1 (b2 k q)
    subst e
    have r := Stl.unique a3 b3
    exact ⟨by omega, r.2⟩
theorem sm_nonneg {f : Int → Int} {n : Nat} (h : ∀ k : Nat, k < n → 0 ≤ f k) : 0 ≤ sm f n := by
  induction n with
  | zero => exact Int.le_refl _
  | succ n ih =>
    have h1 := ih (fun k hk => h k (by omega))
    have h2 := h n (by omega)
    show 0 ≤ sm f n + f n
    omega
/-- a sum, one place of it otherwise -/
theorem sm_upd {f g : Int → Int} {p : Nat} : ∀ {n : Nat}, p < n → (∀ k : Nat, k < n → k ≠ p → g k = f k) → sm g n = sm f n + (g p - f p)
  | n + 1, hp, h => by
    by_cases e : p = n
    · subst e
      show sm g p + g p = sm f p + f p + _
      rw [sm_congr (f := g) (g := f) (fun k hk => h k (by omega) (by omega))]; omega
    · show sm g n + g n = sm f n + f n + _
      rw [sm_upd (n := n) (by omega) (fun k hk q => h k (by omega) q), h n (by omega) (by omega)]; omega
theorem sm_crr {s d : Int → Int} {n : Int} {h : Nat} (B : BOK s n h) {k : Int} (hc : canC s h d k 1) : sm (crr s d k 1) h < sm d h := by
  obtain ⟨c1, c2, -⟩ := hc
  obtain ⟨p, rfl⟩ : ∃ p : Nat, k = p := ⟨k.toNat, by omega⟩
  have cb := cN_b B c1
  have b0 := B.2.2.1 p c1
  have b1 := B.2.2.1 0 (by omega)
  have e1 := sm_upd (f := d) (g := fun j => if j = (p : Int) + 1 then d j + 1 else d j) (p := p + 1) (n := h) (by omega) (fun k hk q => if_neg (by omega))
  have e2 := sm_upd (f := fun j => if j = (p : Int) + 1 then d j + 1 else d j) (g := fun j => if j = (p : Int) + 1 then d j + 1 else if j = (p : Int) then d j - 1 * cN s p else d j) (p := p) (n := h) (by omega) (fun k hk q => by
    by_cases e : (k : Int) = (p : Int) + 1
    · rw [if_pos e, if_pos e]
    · rw [if_neg e, if_neg e, if_neg (by omega)])
  have x1 : (if ((p + 1 : Nat) : Int) = (p : Int) + 1 then d ((p + 1 : Nat) : Int) + 1 else d ((p + 1 : Nat) : Int)) = d ((p + 1 : Nat) : Int) + 1 := if_pos (by omega)
  have x2 : (if (p : Int) = (p : Int) + 1 then d p + 1 else if (p : Int) = (p : Int) then d p - 1 * cN s p else d p) = d p - 1 * cN s p := by rw [if_neg (by omega), if_pos rfl]
  have x3 : (if (p : Int) = (p : Int) + 1 then d p + 1 else d p) = d p := if_neg (by omega)
  rw [x1] at e1
  rw [x2, x3] at e2
  by_cases hp : p = 0
  · subst hp
    have e3 : sm (crr s d ((0 : Nat) : Int) 1) h = sm (fun j => if j = ((0 : Nat) : Int) + 1 then d j + 1 else if j = ((0 : Nat) : Int) then d j - 1 * cN s ((0 : Nat) : Int) else d j) h := sm_congr (fun k hk => by
      unfold crr
      by_cases g1 : (k : Int) = ((0 : Nat) : Int) + 1
      · rw [if_pos g1, if_pos g1]
      · rw [if_neg g1, if_neg g1]
        by_cases g2 : (k : Int) = ((0 : Nat) : Int)
        · rw [if_pos g2, if_pos g2]
        · rw [if_neg g2, if_neg g2, if_neg (by omega)])
    have ec : cN s ((0 : Nat) : Int) = s 0 + 1 := if_pos rfl
    rw [ec] at e2 e3
    omega
  · have e4 := sm_upd (f := fun j => if j = (p : Int) + 1 then d j + 1 else if j = (p : Int) then d j - 1 * cN s p else d j) (g := crr s d p 1) (p := p - 1) (n := h) (by omega) (fun k hk q => by
      unfold crr
      by_cases g1 : (k : Int) = (p : Int) + 1
      · rw [if_pos g1, if_pos g1]
      · rw [if_neg g1, if_neg g1]
        by_cases g2 : (k : Int) = (p : Int)
        · rw [if_pos g2, if_pos g2]
        · rw [if_neg g2, if_neg g2, if_neg (by omega)])
    have x4 : crr s d p 1 ((p - 1 : Nat) : Int) = d ((p - 1 : Nat) : Int) - 1 := by
      unfold crr
      rw [if_neg (by omega), if_neg (by omega), if_pos (by omega)]
    have x5 : (if ((p - 1 : Nat) : Int) = (p : Int) + 1 then d ((p - 1 : Nat) : Int) + 1 else if ((p - 1 : Nat) : Int) = (p : Int) then d ((p - 1 : Nat) : Int) - 1 * cN s p else d ((p - 1 : Nat) : Int)) = d ((p - 1 : Nat) : Int) := by rw [if_neg (by omega), if_neg (by omega)]
    rw [x4, x5] at e4
    omega
theorem sm_digits {d : Int → Int} {s : Int → Int} {n : Int} {h : Nat} (B : BOK s n h) (D : DOK d h) : 0 ≤ sm d h ∧ sm d h ≤ 4257 := by
  have h1 := sm_bound (f := d) (M := 99) (n := h) (fun k hk => D.1 k (by omega) (by omega))
  have := B.h43
  omega
/-- digits whose sum is nothing bear no carry -/
theorem no_carry {s d : Int → Int} {n : Int} {h : Nat} (B : BOK s n h) (D : DOK d h) (hs : sm d h ≤ 0) (k : Int) : ¬ canC s h d k 1 := fun hc => by
  have h1 := sm_crr B hc
  have h2 := sm_digits B (crr_DOK D hc)
  omega
theorem sp_settleAll {o a : Nat} (ho : shp o = (0, 0, 0)) (ha : shp a = (1, 0, 43)) (hna : o + 6 ≠ a) {s d : Int → Int} {n : Int} {h : Nat} (B : BOK s n h) (D : DOK d h) {σ : ASt} (C : CB σ o s n h) (hd : CD σ a d) {Q : Int → ASt → Prop} (hq : ∀ (m : Nat) (d' : Int → Int) (τ : ASt), Stl s h m d d' → DOK d' h → Ag (fun b => b ≠ a) σ τ → CD τ a d' → Q m τ) : EvI K_X0_settleAll [.ref o, .ref a] σ Q := by
  have h43 := B.h43
  have hne : o ≠ a := fun q => by rw [q, ha] at ho; cases ho
  have hne2 : o + 12 ≠ a := fun q => by rw [← q, sf_0_2 ho] at ha; cases ha
  have lp : ∀ (f : Nat) (i : Nat) (k : Int) (e : Int → Int) (τ : ASt), i + f = 4257 → -1 ≤ k → k ≤ (h : Int) - 2 → sm e h ≤ f → DOK e h → Ag (fun b => b ≠ a) σ τ → CD τ a e → (∀ j : Int, k < j → ¬ canC s h e j 1) → (∀ m d', Stl s h m e d' → Stl s h (i + m) d d') → Wx K_X0_settleAll (QI Q) 9 [(0, .ref o), (1, .ref a), (2, .int (iI k)), (3, .int (iI (i : Int)))] [] τ := by
    intro f
    induction f with
    | zero =>
      intro i k e τ hi k0 k1 hsm De hA hde hno hst
      have nc := no_carry B De (by omega)
      have st : Stl s h 0 e e := ⟨nc, rfl⟩
      refine bX0_settleAll_9 ho ha (by omega) ⟨fun _ => ?_, fun q => by omega⟩
      have := hq _ _ τ (hst 0 e st) De hA hde
      rw [show ((i + 0 : Nat) : Int) = 4257 by omega] at this
      exact this
    | succ f ih =>
      intro i k e τ hi k0 k1 hsm De hA hde hno hst
      have CC := C.ag hA hne hna hne2
      refine bX0_settleAll_9 ho ha (by omega) ⟨fun q => by omega, fun _ => ?_⟩
      refine sp_highestCarry ho ha B De CC hde k0 (by omega) (fun r hr => ?_)
      rcases hr with ⟨rfl, hr⟩ | ⟨r0, r1, r2, r3⟩
      · have nc : ∀ j : Int, ¬ canC s h e j 1 := fun j hc => by
          by_cases q : j ≤ k
          · exact hr j hc.1 q hc
          · exact hno j (by omega) hc
        refine ⟨fun q => by omega, fun _ => ?_⟩
        have := hq _ _ τ (hst 0 e ⟨nc, rfl⟩) De hA hde
        exact this
      · refine ⟨fun _ => ?_, fun q => by omega⟩
        have hup : ∀ j : Int, r < j → ¬ canC s h e j 1 := fun j hj => by
          by_cases q : j ≤ k
          · exact r3 j hj q
          · exact hno j (by omega)
        refine sp_carryOnce ho ha hna B De CC hde (Or.inl rfl) r2 (fun υ hA2 hd2 => ?_)
        have hA3 := hA.trans hA2
        have e4 : gI υ o 4 = h := (hA3.I hne 4).trans C.2.1
        rw [e4]
        have s1 := sm_crr B r2
        refine ⟨by omega, by omega, ?_⟩
        have e1 : (i : Int) + 1 = ((i + 1 : Nat) : Int) := by omega
        rw [e1]
        refine ih (i + 1) _ (crr s e r 1) υ (by omega) (by split <;> omega) (by split <;> omega) (by omega) (crr_DOK De r2) hA3 hd2 (fun j hj hc => ?_) (fun m d' hm => ?_)
        · have hj2 : r + 2 < j ∨ (h : Int) - 2 < j := by
            by_cases q : (h : Int) - 2 < r + 2
            · rw [if_pos q] at hj; omega
            · rw [if_neg q] at hj; omega
          rcases hj2 with hj2 | hj2
          · refine hup j (by omega) ?_
            obtain ⟨c1, c2, c3, c4, c5⟩ := hc
            have x1 : crr s e r 1 (j + 1) = e (j + 1) := by unfold crr; rw [if_neg (by omega), if_neg (by omega), if_neg (by omega)]
            have x2 : crr s e r 1 j = e j := by unfold crr; rw [if_neg (by omega), if_neg (by omega), if_neg (by omega)]
            have x3 : crr s e r 1 (j - 1) = e (j - 1) := by unfold crr; rw [if_neg (by omega), if_neg (by omega), if_neg (by omega)]
            rw [x1] at c3
            rw [x2] at c4
            rw [x3] at c5
            exact ⟨c1, c2, c3, c4, c5⟩
          · have := hc.2.1
            omega
        · have := hst (m + 1) d' ⟨r, r2, hup, hm⟩
          rw [show i + 1 + m = i + (m + 1) by omega]
          exact this
  refine eX0_settleAll ho ha ?_
  rw [C.2.1]
  have hs := sm_digits B D
  have hh := B.2.2.2.2.1
  exact lp 4257 0 ((h : Int) - 2) d σ rfl (by omega) (Int.le_refl _) (by omega) D Ag.rf hd (fun j hj hc => by have := hc.2.1; omega) (fun m d' hm => by rw [Nat.zero_add]; exact hm)
/-! shifts, kinds, legal digits -/
def shf (d : Int → Int) (h : Nat) (z k : Int) : Int := if 0 ≤ k ∧ k < (h : Int) ∧ 0 ≤ k - z ∧ k - z < (h : Int) then d (k - z) else 0
theorem shf_DOK {d : Int → Int} {h : Nat} (D : DOK d h) (z : Int) : DOK (shf d h z) h := by
  refine ⟨fun k a b => ?_, fun k q => if_neg (by omega)⟩
  unfold shf
  split
  · exact D.all _
  · omega
theorem sp_shiftInto {o a c : Nat} (ho : shp o = (0, 0, 0)) (ha : shp a = (1, 0, 43)) (hc : shp c = (1, 0, 43)) (hac : c ≠ a) {s d : Int → Int} {n : Int} {h : Nat} (B : BOK s n h) {σ : ASt} (C : CB σ o s n h) (hd : CD σ c d) {Q : ASt → Prop} {z : Int} (hz : -9 ≤ z ∧ z ≤ 9) (hq : ∀ τ, Ag (fun b => b ≠ a) σ τ → CD τ a (shf d h z) → Q τ) : EvV K_X0_shiftInto [.ref o, .ref a, .ref c, .int (iI z)] σ Q := by
  have h43 := B.h43
  have hne : o ≠ a := fun q => by rw [q, ha] at ho; cases ho
  have lp : ∀ (m : Nat) (k : Int) (τ : ASt), 0 ≤ k → k + m = 43 → Ag (fun b => b ≠ a) σ τ → (∀ j : Int, 0 ≤ j → j < k → gI τ a j = shf d h z j) → Wx K_X0_shiftInto (QV Q) 3 [(0, .ref o), (1, .ref a), (2, .ref c), (3, .int (iI z)), (4, .int (iI k))] [] τ := by
    intro m
    induction m with
    | zero =>
      intro k τ k0 hk hA hj
      exact bX0_shiftInto_3 ho ha hc (by omega) ⟨fun _ => hq τ hA (fun j a b => hj j a (by omega)), fun q => by omega⟩
    | succ m ih =>
      intro k τ k0 hk hA hj
      have go : ∀ x : Int, x = shf d h z k → Wx K_X0_shiftInto (QV Q) 3 [(0, .ref o), (1, .ref a), (2, .ref c), (3, .int (iI z)), (4, .int (iI (k + 1)))] [] (sI τ a k x) := fun x hx => ih (k + 1) _ (by omega) (by omega) (hA.trans (ag_sI (fun _ q => q))) (fun j a b => by
        by_cases e : j = k
        · rw [e, gI_self, hx]
        · rw [gI_ne _ _ _ e]; exact hj j a (by omega))
      refine bX0_shiftInto_3 ho ha hc (by omega) ⟨fun q => by omega, fun _ => ?_⟩
      have hh := (hA.I hne 4).trans C.2.1
      refine sp_hasPlace ho (by omega) hh h43 (fun g1 g2 => ?_) (fun g => ⟨⟨k0, by omega⟩, go 0 (by unfold shf; rw [if_neg (by omega)])⟩)
      refine sp_hasPlace ho (by omega) hh h43 (fun g3 g4 => ⟨⟨g3, by omega⟩, ⟨k0, by omega⟩, go _ ?_⟩) (fun g => ⟨⟨k0, by omega⟩, go 0 (by unfold shf; rw [if_neg (by omega)])⟩)
      unfold shf
      rw [if_pos ⟨g1, g2, g3, g4⟩, hA.I hac, hd _ g3 (by omega)]
  exact eX0_shiftInto ho ha hc (lp 43 0 σ (by omega) (by omega) Ag.rf (fun j a b => by omega))
def LEG (s : Int → Int) (h : Nat) (d : Int → Int) : Prop := ∀ k : Int, 0 ≤ k → k < (h : Int) → d k ≤ s k ∧ (d k = s k → 0 < k → d (k - 1) = 0)
theorem sp_allows {o a : Nat} (ho : shp o = (0, 0, 0)) (ha : shp a = (1, 0, 43)) {s d : Int → Int} {n : Int} {h : Nat} (B : BOK s n h) (D : DOK d h) {σ : ASt} (C : CB σ o s n h) (hd : CD σ a d) {QT QF : ASt → Prop} (hT : LEG s h d → QT σ) (hF : ¬ LEG s h d → QF σ) : EvZ K_X0_allows [.ref o, .ref a] σ QT QF := by
  have lp : ∀ (m : Nat) (k : Int), 0 ≤ k → k + m = 43 → (∀ j : Int, 0 ≤ j → j < k → j < (h : Int) → d j ≤ s j ∧ (d j = s j → 0 < j → d (j - 1) = 0)) → Wx K_X0_allows (QZ QT QF) 2 [(0, .ref o), (1, .ref a), (2, .int (iI k))] [] σ := by
    intro m
    induction m with
    | zero =>
      intro k k0 hk hl
      have h43 := B.h43
      exact bX0_allows_2 ho ha (by omega) ⟨fun _ => hT (fun j a b => hl j a (by omega) b), fun q => by omega⟩
    | succ m ih =>
      intro k k0 hk hl
      have e1 := hd k k0 (by omega)
      have e2 := C.2.2.2.1 k k0 (by omega)
      have d1 := D.all k
      have s1 := B.2.2.1 k k0
      have out : ¬ (d k ≤ s k ∧ (d k = s k → 0 < k → d (k - 1) = 0)) → QF σ := fun q => hF (fun L => by
        by_cases g : k < (h : Int)
        · exact q (L k k0 g)
        · have := D.2 k (Or.inr (by omega))
          exact q ⟨by omega, fun z => by omega⟩)
      have nx : (d k ≤ s k ∧ (d k = s k → 0 < k → d (k - 1) = 0)) → Wx K_X0_allows (QZ QT QF) 2 [(0, .ref o), (1, .ref a), (2, .int (iI (k + 1)))] [] σ := fun q => ih (k + 1) (by omega) (by omega) (fun j a b c => by
        by_cases e : j = k
        · rw [e]; exact q
        · exact hl j a (by omega) c)
      refine bX0_allows_2 ho ha (by omega) ⟨fun q => by omega, fun _ => ⟨fun q => by omega, fun _ => ⟨⟨k0, by omega⟩, ?_⟩⟩⟩
      rw [e1, e2]
      refine ⟨by omega, by omega, fun q => out (fun z => by omega), fun q => ⟨fun g => nx ⟨q, fun z => absurd z g⟩, fun g => ⟨fun g2 => nx ⟨q, fun _ z => by omega⟩, fun g2 => ⟨⟨by omega, by omega⟩, ?_⟩⟩⟩⟩
      rw [hd (k - 1) (by omega) (by omega)]
      have d2 := D.all (k - 1)
      exact ⟨by omega, fun z => nx ⟨q, fun _ _ => z⟩, fun z => out (fun y => z (y.2 g g2))⟩
  exact eX0_allows ho ha (lp 43 0 (by omega) (by omega) (fun j a b => by omega))
/-- a base's kind: 0 mixed; 1 even, 2 golden, 3 silver -/
def EVN (s : Int → Int) (n : Int) : Prop := ∀ k : Int, 0 ≤ k → k < n → s k = s 0
theorem sp_kind {o : Nat} (ho : shp o = (0, 0, 0)) {s : Int → Int} {n : Int} {h : Nat} (B : BOK s n h) {σ : ASt} (C : CB σ o s n h) {Q : Int → ASt → Prop} (hM : ¬ EVN s n → Q 0 σ) (hE : EVN s n → Q (if s 0 = 1 then 2 else if s 0 = 2 then 3 else 1) σ) : EvI K_X0_kind [.ref o] σ Q := by
  have e0 := C.2.2.2.1 0 (by omega) (by omega)
  have s0 := B.2.2.1 0 (by omega)
  have fin : EVN s n → (i32 (gI σ (o + 6) 0)) ∧ (((gI σ (o + 6) 0) ≠ 1 → (((gI σ (o + 6) 0) ≠ 2 → Q 1 σ) ∧ ((gI σ (o + 6) 0) = 2 → Q 3 σ))) ∧ ((gI σ (o + 6) 0) = 1 → Q 2 σ)) := fun E => by
    have := hE E
    rw [e0]
    refine ⟨by omega, fun q1 => ⟨fun q2 => ?_, fun q2 => ?_⟩, fun q1 => ?_⟩
    · rwa [if_neg q1, if_neg q2] at this
    · rwa [if_neg q1, if_pos q2] at this
    · rwa [if_pos q1] at this
  have lp : ∀ (m : Nat) (k : Int), 1 ≤ k → k + m = n → (∀ j : Int, 0 ≤ j → j < k → s j = s 0) → Wx K_X0_kind (QI Q) 2 [(0, .ref o), (1, .int (iI k))] [] σ := by
    intro m
    induction m with
    | zero =>
      intro k k0 hk hl
      refine bX0_kind_2 ho (by have := B.2.1; omega) ⟨by rw [C.1]; have := B.1; have := B.2.1; omega, fun _ => fin (fun j a b => hl j a (by omega)), fun q => by rw [C.1] at q; omega⟩
    | succ m ih =>
      intro k k0 hk hl
      have n8 := B.2.1
      have ek := C.2.2.2.1 k (by omega) (by omega)
      have sk := B.2.2.1 k (by omega)
      refine bX0_kind_2 ho (by omega) ⟨by rw [C.1]; omega, fun q => by rw [C.1] at q; omega, fun _ => ⟨fun q => by omega, fun _ => ⟨⟨by omega, by omega⟩, ?_⟩⟩⟩
      rw [ek, e0]
      refine ⟨by omega, by omega, fun q => ih (k + 1) (by omega) (by omega) (fun j a b => ?_), fun q => hM (fun E => q (E k (by omega) (by omega)))⟩
      by_cases e : j = k
      · rw [e]; exact q
      · exact hl j a (by omega)
  exact eX0_kind ho (lp (n - 1).toNat 1 (by omega) (by have := B.1; omega) (fun j a b => by rw [show j = 0 by omega]))
