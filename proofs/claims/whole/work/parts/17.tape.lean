/-! long rows, the tape -/
def CW (σ : ASt) (w : Nat) (z : Int) (it : Int → Int) : Prop := gI σ w 1 = z ∧ ∀ k : Int, 0 ≤ k → k < 60 → gL σ (w + 3) k = it k
theorem CW.ag {P : Nat → Prop} {σ τ : ASt} {w : Nat} {z : Int} {it : Int → Int} (H : Ag P σ τ) (h0 : P w) (h1 : P (w + 3)) (C : CW σ w z it) : CW τ w z it := ⟨(H.I h0 1).trans C.1, fun k a b => (H.L h1 k).trans (C.2 k a b)⟩
theorem sp_isMissing {w : Nat} (hw : shp w = (0, 2, 0)) {z : Int} {it : Int → Int} {σ : ASt} {QT QF : ASt → Prop} (C : CW σ w z it) (hz : -1 ≤ z ∧ z ≤ 60) (hT : z = -1 → QT σ) (hF : 0 ≤ z → QF σ) : EvZ K_X2_isMissing [.ref w] σ QT QF :=
  eX2_isMissing hw ⟨by rw [C.1]; omega, fun q => hF (by rw [C.1] at q; omega), fun q => hT (by rw [C.1] at q; exact q)⟩
theorem sp_rowPlace {w : Nat} (hw : shp w = (0, 2, 0)) {z : Int} {it : Int → Int} {σ : ASt} {QT QF : ASt → Prop} (C : CW σ w z it) (hz : -1 ≤ z ∧ z ≤ 60) {i : Int} (hi : i32 i) (hT : 0 ≤ i → i < z → QT σ) (hF : i < 0 ∨ z ≤ i → QF σ) : EvZ K_X2_hasPlace [.ref w, .int (iI i)] σ QT QF := by
  refine eX2_hasPlace hw hi ?_
  rw [C.1]
  exact ⟨fun q => hF (Or.inl q), fun q => ⟨by omega, fun r => hF (Or.inr r), fun r => ⟨fun _ => by omega, fun _ => hT q r⟩⟩⟩
theorem sp_hasRange {w : Nat} (hw : shp w = (0, 2, 0)) {z : Int} {it : Int → Int} {σ : ASt} {QT QF : ASt → Prop} (C : CW σ w z it) (hz : -1 ≤ z ∧ z ≤ 60) {i n : Int} (hi : i32 i) (hn : i32 n) (hT : 0 ≤ i → 0 ≤ n → i + n ≤ z → QT σ) (hF : ¬ (0 ≤ i ∧ 0 ≤ n ∧ i + n ≤ z) → QF σ) : EvZ K_X2_hasRange [.ref w, .int (iI i), .int (iI n)] σ QT QF := by
  refine eX2_hasRange hw hi hn ?_
  rw [C.1]
  exact ⟨fun q => hF (by omega), fun q => ⟨fun r => hF (by omega), fun r => ⟨by omega, fun u => hF (by omega), fun u => ⟨by omega, fun x => hF (by omega), fun x => hT q r (by omega)⟩⟩⟩⟩
theorem sp_become {w : Nat} (hw : shp w = (0, 2, 0)) {n : Int} (hn : -1 ≤ n ∧ n ≤ 60) {σ : ASt} {Q : ASt → Prop} (hq : ∀ τ, Ag (fun b => b ≠ w ∧ b ≠ w + 3) σ τ → CW τ w n (fun _ => 0) → Q τ) : EvV K_X2_become [.ref w, .int (iI n)] σ Q := by
  have e : (if ((-1) : Int) < (if (60 : Int) < n then 60 else n) then (if (60 : Int) < n then 60 else n) else (-1)) = n := by
    rw [if_neg (show ¬ (60 : Int) < n by omega)]
    split <;> omega
  refine eX2_become hw (by omega) ⟨by split <;> omega, ?_⟩
  rw [e]
  have lp : ∀ (m : Nat) (k : Int) (τ : ASt), 0 ≤ k → k + m = 60 → Ag (fun b => b ≠ w ∧ b ≠ w + 3) σ τ → gI τ w 1 = n → (∀ j : Int, 0 ≤ j → j < k → gL τ (w + 3) j = 0) → Wx K_X2_become (QV Q) 16 [(0, .ref w), (2, .int (iI k))] [] τ := by
    intro m
    induction m with
    | zero => exact fun k τ k0 hk hA h1 hj => bX2_become_16 hw (by omega) ⟨fun _ => hq τ hA ⟨h1, fun j a b => hj j a (by omega)⟩, fun q => by omega⟩
    | succ m ih =>
      intro k τ k0 hk hA h1 hj
      refine bX2_become_16 hw (by omega) ⟨fun q => by omega, fun _ => ⟨⟨k0, by omega⟩, ih (k + 1) _ (by omega) (by omega) (hA.trans (ag_sL (fun b hb => hb.2))) h1 (fun j a b => ?_)⟩⟩
      by_cases z : j = k
      · rw [z, gL_self]
      · rw [gL_ne _ _ _ z]; exact hj j a (by omega)
  exact lp 60 0 _ (by omega) (by omega) (ag_sI (fun b hb => hb.1)) (gI_self _ _ _ _) (fun j a b => by omega)
def lay (z : Int) (it : Int → Int) (k : Int) : Int := if 0 ≤ k ∧ k < z then it k else 0
theorem sp_digitsInto {w a : Nat} (hw : shp w = (0, 2, 0)) (ha : shp a = (1, 0, 43)) {z : Int} {it : Int → Int} {σ : ASt} {QT QF : ASt → Prop} (C : CW σ w z it) (hz : 0 ≤ z ∧ z ≤ 60) (hit : ∀ k : Int, 0 ≤ k → k < 60 → i64 (it k)) {h : Nat} (h43 : h ≤ 43) (hT : ∀ τ, z ≤ h → (∀ k : Int, 0 ≤ k → k < z → 0 ≤ it k ∧ it k ≤ 99) → Ag (fun b => b ≠ a) σ τ → CD τ a (lay z it) → QT τ) (hF : ∀ τ, ((h : Int) < z ∨ ∃ k : Int, 0 ≤ k ∧ k < z ∧ ¬ (0 ≤ it k ∧ it k ≤ 99)) → Ag (fun b => b ≠ a) σ τ → QF τ) : EvZ K_X2_digitsInto [.ref w, .ref a, .int (iI (h : Int))] σ QT QF := by
  have n1 : w ≠ a := fun q => by rw [q, ha] at hw; cases hw
  have n2 : w + 3 ≠ a := fun q => by have := sf_2_0 hw; rw [q, ha] at this; cases this
  have lp : ∀ (m : Nat) (k : Int) (τ : ASt), z ≤ h → 0 ≤ k → k + m = 43 → Ag (fun b => b ≠ a) σ τ → (∀ j : Int, 0 ≤ j → j < k → gI τ a j = lay z it j ∧ (j < z → 0 ≤ it j ∧ it j ≤ 99)) → Wx K_X2_digitsInto (QZ QT QF) 12 [(0, .ref w), (1, .ref a), (3, .int (iI k))] [] τ := by
    intro m
    induction m with
    | zero => exact fun k τ hzh k0 hk hA hj => bX2_digitsInto_12 hw ha (by omega) ⟨fun _ => hT τ hzh (fun j x y => (hj j x (by omega)).2 y) hA (fun j x y => (hj j x (by omega)).1), fun q => by omega⟩
    | succ m ih =>
      intro k τ hzh k0 hk hA hj
      refine bX2_digitsInto_12 hw ha (by omega) ⟨fun q => by omega, fun _ => ?_⟩
      have go : ∀ x : Int, x = lay z it k → (k < z → 0 ≤ it k ∧ it k ≤ 99) → Wx K_X2_digitsInto (QZ QT QF) 12 [(0, .ref w), (1, .ref a), (3, .int (iI (k + 1)))] [] (sI τ a k x) := fun x hx hr => ih (k + 1) _ hzh (by omega) (by omega) (hA.trans (ag_sI (fun _ q => q))) (fun j x0 y => by
        by_cases e : j = k
        · rw [e, gI_self]; exact ⟨hx, hr⟩
        · rw [gI_ne _ _ _ e]; exact hj j x0 (by omega))
      refine sp_rowPlace hw (C.ag hA n1 n2) ⟨by omega, hz.2⟩ (by omega) (fun g1 g2 => ⟨⟨by omega, by omega⟩, ?_⟩) (fun g => ⟨⟨by omega, by omega⟩, go 0 (by unfold lay; rw [if_neg (by omega)]) (fun q => by omega)⟩)
      have e1 : gL τ (w + 3) k = it k := (hA.L n2 k).trans (C.2 k k0 (by omega))
      rw [e1]
      refine ⟨hit k k0 (by omega), fun q => hF τ (Or.inr ⟨k, g1, g2, by omega⟩) hA, fun q => ⟨fun r => ⟨⟨by omega, by omega⟩, go _ (by unfold lay; rw [if_pos ⟨g1, g2⟩]) (fun _ => ⟨q, r⟩)⟩, fun r => hF τ (Or.inr ⟨k, g1, g2, by omega⟩) hA⟩⟩
  refine eX2_digitsInto hw ha (by omega) ⟨by rw [C.1]; omega, fun q => lp 43 0 σ (by rw [C.1] at q; exact q) (by omega) (by omega) Ag.rf (fun j x y => by omega), fun q => hF σ (Or.inl (by rw [C.1] at q; exact q)) Ag.rf⟩
/-! the tape's text -/
def isF (t : Int → Int) (p : Int) : Prop := 48 ≤ t p ∧ t p ≤ 57
def CT (σ : ASt) (z : Int) (t : Int → Int) : Prop := gI σ 9 1 = z ∧ ∀ i : Int, 0 ≤ i → i < z → gI σ 10 i = t i
theorem CT.ag {P : Nat → Prop} {σ τ : ASt} {z : Int} {t : Int → Int} (H : Ag P σ τ) (h0 : P 9) (h1 : P 10) (C : CT σ z t) : CT τ z t := ⟨(H.I h0 1).trans C.1, fun k a b => (H.I h1 k).trans (C.2 k a b)⟩
theorem sp_isFigure {x : Int} {σ : ASt} {QT QF : ASt → Prop} (hx : i32 x) (hT : 48 ≤ x → x ≤ 57 → QT σ) (hF : x < 48 ∨ 57 < x → QF σ) : EvZ K_X6_isFigure [.int (iI x)] σ QT QF :=
  eX6_isFigure (sp_isWithin hx (by omega) (by omega) hT hF)
/-- one place of a row otherwise -/
def st1 (t : Int → Int) (z x i : Int) : Int := if i = z then x else t i
theorem sp_tapeAdd {x z : Int} {t : Int → Int} {σ : ASt} {QT QF : ASt → Prop} (C : CT σ z t) (hz : 0 ≤ z ∧ z ≤ 80) (hT : ∀ τ, z < 80 → Ag (fun b => b ≠ 9 ∧ b ≠ 10) σ τ → CT τ (z + 1) (st1 t z x) → QT τ) (hF : z = 80 → QF σ) : EvZ K_X6_add [.ref 9, .int (iI x)] σ QT QF := by
  refine eX6_add ⟨by rw [C.1]; omega, fun q => ?_, fun q => hF (by rw [C.1] at q; omega)⟩
  rw [C.1] at q ⊢
  have e1 : gI (sI σ 10 z x) 9 1 = z := by rw [gI_na _ _ _ _ (by omega)]; exact C.1
  rw [e1]
  refine ⟨⟨by omega, q⟩, hT _ q ((ag_sI (fun b hb => hb.2)).trans (ag_sI (fun b hb => hb.1))) ⟨gI_self _ _ _ _, fun i a b => ?_⟩⟩
  rw [gI_na _ _ _ _ (by omega)]
  unfold st1
  by_cases e : i = z
  · rw [e, gI_self, if_pos rfl]
  · rw [gI_ne _ _ _ e, if_neg e]; exact C.2 i a (by omega)
/-- a number of one or two figures from p to q -/
def Num (t : Int → Int) (p q v : Int) : Prop := (q = p + 1 ∧ isF t p ∧ v = t p - 48) ∨ (q = p + 2 ∧ isF t p ∧ isF t (p + 1) ∧ v = 10 * (t p - 48) + (t (p + 1) - 48))
/-- the text up to q, its numbers the last first -/
def RX (t : Int → Int) : List Int → Int → Prop
  | [], _ => False
  | [v], q => Num t 0 q v
  | v :: w :: r, q => ∃ p : Int, Num t p q v ∧ 1 ≤ p ∧ t (p - 1) = 46 ∧ RX t (w :: r) (p - 1)
/-- where a number that begins at p ends: two figures if two stand there -/
def nE (t : Int → Int) (z p : Int) : Int := if p + 1 < z ∧ 48 ≤ t (p + 1) ∧ t (p + 1) ≤ 57 then p + 2 else p + 1
def nV (t : Int → Int) (z p : Int) : Int := if p + 1 < z ∧ 48 ≤ t (p + 1) ∧ t (p + 1) ≤ 57 then 10 * (t p - 48) + (t (p + 1) - 48) else t p - 48
/-- reading z bytes from place p on, behind the numbers l (the last first), H at most: the fault (-1: none), the numbers -/
def ps (t : Int → Int) (z : Int) (H : Nat) : Nat → Int → List Int → Int × List Int
  | 0, p, l => (p, l)
  | f + 1, p, l =>
    if l.length = H ∨ ¬ (p < z ∧ 48 ≤ t p ∧ t p ≤ 57) then (p, l)
    else if nE t z p = z then (-1, nV t z p :: l)
    else if t (nE t z p) ≠ 46 then (nE t z p, nV t z p :: l)
    else ps t z H f (nE t z p + 1) (nV t z p :: l)
theorem nNum {t : Int → Int} {z p : Int} (h : 48 ≤ t p ∧ t p ≤ 57) : Num t p (nE t z p) (nV t z p) := by
  unfold nE nV
  by_cases q : p + 1 < z ∧ 48 ≤ t (p + 1) ∧ t (p + 1) ≤ 57
  · rw [if_pos q, if_pos q]; exact Or.inr ⟨rfl, h, q.2, rfl⟩
  · rw [if_neg q, if_neg q]; exact Or.inl ⟨rfl, h, rfl⟩
theorem nE_b {t : Int → Int} {z p : Int} (hp : p < z) : p + 1 ≤ nE t z p ∧ nE t z p ≤ p + 2 ∧ nE t z p ≤ z := by
  unfold nE
  split <;> omega
theorem nV_b {t : Int → Int} {z p : Int} (h : 48 ≤ t p ∧ t p ≤ 57) : 0 ≤ nV t z p ∧ nV t z p ≤ 99 := by
  unfold nV
  split <;> omega
theorem ps_ok {t : Int → Int} {z : Int} {H : Nat} : ∀ (f : Nat) (p : Int) (l : List Int), 0 ≤ p → (z - p < f) → (l = [] ∧ p = 0 ∨ RX t l (p - 1) ∧ t (p - 1) = 46 ∧ 1 ≤ p) → l.length ≤ H → (∀ v ∈ l, 0 ≤ v ∧ v ≤ 99) → (ps t z H f p l).1 = -1 → RX t (ps t z H f p l).2 z ∧ (ps t z H f p l).2.length ≤ H ∧ (∀ v ∈ (ps t z H f p l).2, 0 ≤ v ∧ v ≤ 99)
  | 0, p, l, p0, hf, _, _, _, h1 => by simp only [ps] at h1; omega
  | f + 1, p, l, p0, hf, hl, hH, hv, h1 => by
    unfold ps at h1 ⊢
    by_cases c1 : l.length = H ∨ ¬ (p < z ∧ 48 ≤ t p ∧ t p ≤ 57)
    · rw [if_pos c1] at h1
      dsimp only at h1
      omega
    · rw [if_neg c1] at h1 ⊢
      have c2 : p < z ∧ 48 ≤ t p ∧ t p ≤ 57 := Classical.byContradiction fun q => c1 (Or.inr q)
      have c3 : l.length < H := by
        have : l.length ≠ H := fun q => c1 (Or.inl q)
        omega
      have b := nE_b (t := t) c2.1
      have bv := nV_b (z := z) c2.2
      have rx : RX t (nV t z p :: l) (nE t z p) := by
        rcases hl with ⟨rfl, rfl⟩ | ⟨h2, h3, h4⟩
        · exact nNum c2.2
        · cases l with
          | nil => exact h2.elim
          | cons w r => exact ⟨p, nNum c2.2, h4, h3, h2⟩
      have hv2 : ∀ v ∈ nV t z p :: l, 0 ≤ v ∧ v ≤ 99 := fun v hv' => by
        rcases List.mem_cons.mp hv' with rfl | q
        · exact bv
        · exact hv v q
      by_cases c4 : nE t z p = z
      · rw [if_pos c4] at h1 ⊢
        rw [c4] at rx
        exact ⟨rx, by simp; omega, hv2⟩
      · rw [if_neg c4] at h1 ⊢
        by_cases c5 : t (nE t z p) ≠ 46
        · rw [if_pos c5] at h1
          dsimp only at h1
          omega
        · rw [if_neg c5] at h1 ⊢
          have c6 : t (nE t z p) = 46 := Classical.not_not.mp c5
          exact ps_ok f (nE t z p + 1) (nV t z p :: l) (by omega) (by omega) (Or.inr ⟨by rw [show nE t z p + 1 - 1 = nE t z p by omega]; exact rx, by rw [show nE t z p + 1 - 1 = nE t z p by omega]; exact c6, by omega⟩) (by simp; omega) hv2 h1
theorem ps_b {t : Int → Int} {z : Int} {H : Nat} : ∀ (f : Nat) (p : Int) (l : List Int), 0 ≤ p → p ≤ z → -1 ≤ (ps t z H f p l).1 ∧ (ps t z H f p l).1 ≤ z
  | 0, p, l, p0, pz => by simp only [ps]; omega
  | f + 1, p, l, p0, pz => by
    unfold ps
    by_cases c1 : l.length = H ∨ ¬ (p < z ∧ 48 ≤ t p ∧ t p ≤ 57)
    · rw [if_pos c1]; dsimp only; omega
    · rw [if_neg c1]
      have c2 : p < z ∧ 48 ≤ t p ∧ t p ≤ 57 := Classical.byContradiction fun q => c1 (Or.inr q)
      have b := nE_b (t := t) c2.1
      by_cases c4 : nE t z p = z
      · rw [if_pos c4]; dsimp only; omega
      · rw [if_neg c4]
        by_cases c5 : t (nE t z p) ≠ 46
        · rw [if_pos c5]; dsimp only; omega
        · rw [if_neg c5]
          exact ps_b f _ _ (by omega) (by omega)
theorem sp_fault {z : Int} {t : Int → Int} {σ : ASt} (C : CT σ z t) (hz : 0 ≤ z ∧ z ≤ 80) (ht : ∀ i : Int, 0 ≤ i → i < z → 0 ≤ t i ∧ t i ≤ 127) {H : Nat} (hH : H ≤ 43) {Q : Int → ASt → Prop} (hq : Q (ps t z H 100 0 []).1 σ) : EvI K_X6_fault [.ref 9, .int (iI (H : Int))] σ Q := by
  have lp : ∀ (f : Nat) (p : Int) (l : List Int), 0 ≤ p → p ≤ z → z - p < f → l.length ≤ H → Q (ps t z H f p l).1 σ → Wx K_X6_fault (QI Q) 7 [(0, .ref 9), (1, .int (iI (H : Int))), (2, .int (iI (l.length : Int))), (3, .int (iI 0)), (4, .int (iI p))] [] σ := by
    intro f
    induction f with
    | zero => intro p l p0 pz hf; omega
    | succ f ih =>
      intro p l p0 pz hf hl hq
      unfold ps at hq
      refine bX6_fault_7 (by omega) (by omega) (by omega) (by omega) ?_
      rw [C.1]
      refine ⟨by omega, fun q => ⟨fun r => absurd rfl r, fun _ => ?_⟩, fun q => ⟨fun r => by omega, fun _ => ⟨⟨p0, by omega⟩, ?_⟩⟩⟩
      · rw [if_pos (Or.inr (by omega))] at hq
        have : p = z := by omega
        rw [this] at hq; exact hq
      rw [C.2 p p0 q]
      have tp := ht p p0 q
      refine sp_isFigure (by omega) (fun g1 g2 => ?_) (fun g => ?_)
      · refine ⟨fun r => by omega, fun _ => ⟨fun r => absurd rfl r, fun _ => ⟨fun r => ⟨fun u => absurd rfl u, fun _ => ?_⟩, fun r => ?_⟩⟩⟩
        · rw [if_neg (by omega)] at hq
          have b := nE_b (t := t) q
          have e1 : (l.length : Int) + 1 = (((nV t z p :: l).length : Nat) : Int) := by simp
          rw [e1]
          -- behind the first figure
          refine bX6_fault_7 (by omega) (by simp; omega) (by omega) (by omega) ?_
          rw [C.1]
          refine ⟨by omega, fun u => ⟨fun _ => ?_, fun w => by omega⟩, fun u => ⟨fun w => by omega, fun _ => ⟨⟨by omega, by omega⟩, ?_⟩⟩⟩
          · rw [if_pos (by omega)] at hq; exact hq
          rw [C.2 (p + 1) (by omega) u]
          have tp1 := ht (p + 1) (by omega) u
          refine sp_isFigure (by omega) (fun g3 g4 => ?_) (fun g3 => ?_)
          · have eE : nE t z p = p + 2 := if_pos ⟨u, g3, g4⟩
            refine ⟨fun w => by omega, fun _ => ⟨fun _ => ⟨fun _ => ?_, fun w => by omega⟩, fun w => by omega⟩⟩
            have e2 : (0 : Int) + 1 + 1 = 2 := rfl
            rw [show p + 1 + 1 = p + 2 by omega, e2]
            -- behind the second figure
            refine bX6_fault_7 (by omega) (by simp; omega) (by omega) (by omega) ?_
            rw [C.1]
            rw [eE] at hq
            refine ⟨by omega, fun x => ⟨fun _ => ?_, fun w => by omega⟩, fun x => ⟨fun w => by omega, fun _ => ⟨⟨by omega, by omega⟩, ?_⟩⟩⟩
            · rw [if_pos (by omega)] at hq; exact hq
            rw [C.2 (p + 2) (by omega) x]
            have tp2 := ht (p + 2) (by omega) x
            rw [if_neg (by omega)] at hq
            refine sp_isFigure (by omega) (fun g5 g6 => ⟨fun _ => ?_, fun w => absurd rfl w⟩) (fun g5 => ?_)
            · rw [if_pos (by omega)] at hq; exact hq
            · rw [C.2 (p + 2) (by omega) x]
              refine ⟨by omega, fun w => ?_, fun w => ⟨fun y => by omega, fun _ => ?_⟩⟩
              · rw [if_pos w] at hq; exact hq
              · rw [if_neg (by omega)] at hq
                exact ih (p + 2 + 1) (nV t z p :: l) (by omega) (by omega) (by omega) (by simp; omega) hq
          · have eE : nE t z p = p + 1 := if_neg (by omega)
            rw [C.2 (p + 1) (by omega) u]
            rw [eE, if_neg (by omega)] at hq
            refine ⟨by omega, fun w => ?_, fun w => ⟨fun y => by omega, fun _ => ?_⟩⟩
            · rw [if_pos w] at hq; exact hq
            · rw [if_neg (by omega)] at hq
              exact ih (p + 1 + 1) (nV t z p :: l) (by omega) (by omega) (by omega) (by simp; omega) hq
        · rw [if_pos (Or.inl (by omega))] at hq; exact hq
      · rw [C.2 p p0 q]
        rw [if_pos (Or.inr (by omega))] at hq
        exact ⟨by omega, fun _ => hq, fun _ => ⟨fun _ => hq, fun w => by omega⟩⟩
  exact eX6_fault (lp 100 0 [] (by omega) hz.1 (by omega) (by simp) hq)
/-- the digits that a text tells: the last number at place 0 -/
def tD (l : List Int) (k : Int) : Int := if 0 ≤ k then l.getD k.toNat 0 else 0
theorem sp_numbersInto {a : Nat} (ha : shp a = (1, 0, 43)) {z : Int} {t : Int → Int} {σ : ASt} (C : CT σ z t) (hz : 0 ≤ z ∧ z ≤ 80) {l : List Int} (hl : RX t l z) (hH : l.length ≤ 43) {Q : Int → ASt → Prop} (hq : ∀ τ, Ag (fun b => b ≠ a) σ τ → CD τ a (tD l) → Q l.length τ) : EvI K_X6_numbersInto [.ref 9, .ref a] σ Q := by
  have n9 : (9 : Nat) ≠ a := fun q => by rw [← q] at ha; cases ha
  have n10 : (10 : Nat) ≠ a := fun q => by rw [← q] at ha; cases ha
  -- from the right, number by number
  have lp2 : ∀ (r : List Int) (q : Int) (m : Int) (τ : ASt), RX t r q → 0 ≤ m → m + r.length ≤ 43 → q ≤ z → Ag (fun b => b ≠ a) σ τ → (∀ j : Int, m ≤ j → j < 43 → gI τ a j = 0) → (∀ υ, Ag (fun b => b ≠ a) σ υ → (∀ j : Int, 0 ≤ j → j < 43 → gI υ a j = if j < m then gI τ a j else tD r (j - m)) → Q (m + r.length) υ) → Wx K_X6_numbersInto (QI Q) 35 [(0, .ref 9), (1, .ref a), (2, .int (iI m)), (3, .int (iI 1)), (4, .int (iI (q - 1)))] [] τ := by
    intro r
    induction r with
    | nil => intro q m τ hr; exact hr.elim
    | cons v r ih =>
      intro q m τ hr m0 hm hqz hA h0 hfin
      rw [List.length_cons] at hm
      -- one number
      have num : ∀ p : Int, 0 ≤ p → Num t p q v → (∀ υ, Ag (fun b => b ≠ a) σ υ → (∀ j : Int, 0 ≤ j → j < 43 → gI υ a j = if j = m then v else gI τ a j) → ∀ u : Int, Wx K_X6_numbersInto (QI Q) 35 [(0, .ref 9), (1, .ref a), (2, .int (iI m)), (3, .int (iI u)), (4, .int (iI (p - 1)))] [] υ) → Wx K_X6_numbersInto (QI Q) 35 [(0, .ref 9), (1, .ref a), (2, .int (iI m)), (3, .int (iI 1)), (4, .int (iI (q - 1)))] [] τ := by
        intro p p0 hn hk
        have rd : ∀ (υ : ASt) (i : Int), Ag (fun b => b ≠ a) σ υ → 0 ≤ i → i < z → gI υ 10 i = t i := fun υ i hB i0 iz => (hB.I n10 i).trans (C.2 i i0 iz)
        rcases hn with ⟨rfl, f1, rfl⟩ | ⟨rfl, f1, f2, rfl⟩
        · rw [show p + 1 - 1 = p by omega]
          refine bX6_numbersInto_35 ha (by omega) (by omega) ⟨fun w => by omega, fun _ => ⟨⟨p0, by omega⟩, ?_⟩⟩
          unfold isF at f1
          rw [rd τ p hA p0 (by omega)]
          refine ⟨by omega, fun _ => ⟨fun w => by omega, fun _ => ⟨⟨m0, by omega⟩, ?_⟩⟩, fun w => by omega⟩
          rw [show p + -1 = p - 1 by omega, h0 m (Int.le_refl _) (by omega)]
          refine hk _ (hA.trans (ag_sI (fun _ x => x))) (fun j j0 j1 => ?_) 10
          by_cases e : j = m
          · rw [e, gI_self, if_pos rfl]; omega
          · rw [gI_ne _ _ _ e, if_neg e]
        · unfold isF at f1 f2
          rw [show p + 2 - 1 = p + 1 by omega]
          refine bX6_numbersInto_35 ha (by omega) (by omega) ⟨fun w => by omega, fun _ => ⟨⟨by omega, by omega⟩, ?_⟩⟩
          rw [rd τ (p + 1) hA (by omega) (by omega)]
          refine ⟨by omega, fun _ => ⟨fun w => by omega, fun _ => ⟨⟨m0, by omega⟩, ?_⟩⟩, fun w => by omega⟩
          rw [show p + 1 + -1 = p by omega, h0 m (Int.le_refl _) (by omega)]
          have hA2 : Ag (fun b => b ≠ a) σ (sI τ a m (0 + (t (p + 1) - 48) * 1)) := hA.trans (ag_sI (fun _ x => x))
          refine bX6_numbersInto_35 ha (by omega) (by omega) ⟨fun w => by omega, fun _ => ⟨⟨by omega, by omega⟩, ?_⟩⟩
          rw [rd _ p hA2 (by omega) (by omega)]
          refine ⟨by omega, fun _ => ⟨fun w => by omega, fun _ => ⟨⟨m0, by omega⟩, ?_⟩⟩, fun w => by omega⟩
          rw [show p + -1 = p - 1 by omega, gI_self]
          refine hk _ (hA2.trans (ag_sI (fun _ x => x))) (fun j j0 j1 => ?_) 10
          by_cases e : j = m
          · rw [e, gI_self, if_pos rfl]; omega
          · rw [gI_ne _ _ _ e, gI_ne _ _ _ e, if_neg e]
      cases r with
      | nil =>
        refine num 0 (by omega) hr (fun υ hB hj u => ?_)
        refine bX6_numbersInto_35 ha (by omega) (by omega) ⟨fun _ => ⟨by omega, ?_⟩, fun w => by omega⟩
        refine hfin υ hB (fun j j0 j1 => ?_)
        rw [hj j j0 j1]
        by_cases e : j < m
        · rw [if_pos e, if_neg (by omega)]
        · rw [if_neg e]
          by_cases e2 : j = m
          · rw [if_pos e2, e2]; simp [tD]
          · rw [if_neg e2, h0 j (by omega) j1]
            unfold tD
            rw [if_pos (by omega)]
            obtain ⟨i, hi⟩ : ∃ i, (j - m).toNat = i + 1 := ⟨(j - m).toNat - 1, by omega⟩
            rw [hi]; simp
      | cons w r =>
        obtain ⟨p, hn, p1, hpt, hrx⟩ := hr
        refine num p (by omega) hn (fun υ hB hj u => ?_)
        have hnq : p + 1 ≤ q := by rcases hn with ⟨e, _⟩ | ⟨e, _⟩ <;> omega
        refine bX6_numbersInto_35 ha (by omega) (by omega) ⟨fun x => by omega, fun _ => ⟨⟨by omega, by omega⟩, ?_⟩⟩
        rw [(hB.I n10 (p - 1)).trans (C.2 (p - 1) (by omega) (by omega)), hpt]
        refine ⟨by omega, fun x => absurd rfl x, fun _ => ?_⟩
        rw [show p - 1 + -1 = p - 1 - 1 by omega]
        refine ih (p - 1) (m + 1) υ hrx (by omega) (by rw [List.length_cons] at hm ⊢; omega) (by omega) hB (fun j j0 j1 => by rw [hj j (by omega) j1, if_neg (by omega)]; exact h0 j (by omega) j1) (fun ω hB2 hj2 => ?_)
        have := hfin ω hB2 (fun j j0 j1 => ?_)
        · rw [List.length_cons] at this
          rw [show m + 1 + (((w :: r).length : Nat) : Int) = m + (((w :: r).length + 1 : Nat) : Int) by omega]
          exact this
        · rw [hj2 j j0 j1, hj j j0 j1]
          by_cases e : j < m
          · rw [if_pos e, if_pos (by omega), if_neg (by omega)]
          · rw [if_neg e]
            by_cases e2 : j = m
            · rw [if_pos (by omega), if_pos e2, e2]; simp [tD]
            · rw [if_neg (by omega)]
              unfold tD
              rw [if_pos (by omega), if_pos (by omega), show (j - m).toNat = (j - (m + 1)).toNat + 1 by omega]
              simp
  have lp1 : ∀ (m : Nat) (k : Int) (τ : ASt), 0 ≤ k → k + m = 43 → Ag (fun b => b ≠ a) σ τ → (∀ j : Int, 0 ≤ j → j < k → gI τ a j = 0) → Wx K_X6_numbersInto (QI Q) 2 [(0, .ref 9), (1, .ref a), (2, .int (iI k))] [] τ := by
    intro m
    induction m with
    | zero =>
      intro k τ k0 hk hA hj
      have e9 : gI τ 9 1 = z := (hA.I n9 1).trans C.1
      refine bX6_numbersInto_2 ha (by omega) ⟨fun _ => ?_, fun w => by omega⟩
      rw [e9]
      refine ⟨by omega, ?_⟩
      rw [show (if (80 : Int) < z then 80 else z) = z by rw [if_neg (by omega)]]
      refine lp2 l z 0 τ hl (by omega) (by omega) (Int.le_refl _) hA (fun j a b => hj j a (by omega)) (fun υ hB hj2 => ?_)
      have := hq υ hB (fun j j0 j1 => by rw [hj2 j j0 j1, if_neg (by omega), Int.sub_zero])
      rw [Int.zero_add]; exact this
    | succ m ih =>
      intro k τ k0 hk hA hj
      refine bX6_numbersInto_2 ha (by omega) ⟨fun w => by omega, fun _ => ⟨⟨k0, by omega⟩, ih (k + 1) _ (by omega) (by omega) (hA.trans (ag_sI (fun _ x => x))) (fun j x y => ?_)⟩⟩
      by_cases e : j = k
      · rw [e, gI_self]
      · rw [gI_ne _ _ _ e]; exact hj j x (by omega)
  exact eX6_numbersInto ha (lp1 43 0 σ (by omega) (by omega) Ag.rf (fun j x y => by omega))
