/-! the reference's part: cells that stay, what it holds -/
def Fr (P : Nat → Int → Prop) (σ τ : ASt) : Prop := MO σ τ ∧ ∀ a j, P a j → gI τ a j = gI σ a j ∧ gL τ a j = gL σ a j
theorem Fr.rf {P : Nat → Int → Prop} {σ : ASt} : Fr P σ σ := ⟨Ag.rf, fun _ _ _ => ⟨rfl, rfl⟩⟩
theorem Fr.trans {P : Nat → Int → Prop} {σ τ υ : ASt} (h1 : Fr P σ τ) (h2 : Fr P τ υ) : Fr P σ υ := ⟨h1.1.trans h2.1, fun a j h => ⟨(h2.2 a j h).1.trans (h1.2 a j h).1, (h2.2 a j h).2.trans (h1.2 a j h).2⟩⟩
theorem Fr.mono {P P' : Nat → Int → Prop} {σ τ : ASt} (h : Fr P σ τ) (hp : ∀ a j, P' a j → P a j) : Fr P' σ τ := ⟨h.1, fun a j q => h.2 a j (hp a j q)⟩
theorem Fr.I {P : Nat → Int → Prop} {σ τ : ASt} (h : Fr P σ τ) {a : Nat} {j : Int} (hp : P a j) : gI τ a j = gI σ a j := (h.2 a j hp).1
theorem Fr.L {P : Nat → Int → Prop} {σ τ : ASt} (h : Fr P σ τ) {a : Nat} {j : Int} (hp : P a j) : gL τ a j = gL σ a j := (h.2 a j hp).2
theorem fr_sI {P : Nat → Int → Prop} {σ : ASt} {a : Nat} {i v : Int} (ha : 72 ≤ a) (hp : ∀ b j, P b j → ¬ (b = a ∧ j = i)) : Fr P σ (sI σ a i v) := ⟨ag_sI (fun b hb => by omega), fun b j h => ⟨if_neg (hp b j h), rfl⟩⟩
theorem fr_sL {P : Nat → Int → Prop} {σ : ASt} {a : Nat} {i v : Int} (ha : 72 ≤ a) (hp : ∀ b j, P b j → ¬ (b = a ∧ j = i)) : Fr P σ (sL σ a i v) := ⟨ag_sL (fun b hb => by omega), fun b j h => ⟨rfl, if_neg (hp b j h)⟩⟩
def MB (σ : ASt) (i : Int) (s : Int → Int) (n : Int) (h : Nat) : Prop := gI σ 74 i = n ∧ gI σ 75 i = h ∧ gL σ 77 i = wo s h - 1 ∧ (∀ k : Int, 0 ≤ k → k < n → gI σ 73 (8 * i + k) = s k) ∧ (∀ k : Int, 0 ≤ k → k < h → gL σ 76 (50 * i + k) = wo s k.toNat)
def MR (σ : ASt) (r b : Int) (d : Int → Int) (h : Nat) : Prop := gI σ 78 r = b ∧ (0 ≤ b → ∀ k : Int, 0 ≤ k → k < h → gI σ 79 (50 * r + k) = d k)
def ML (σ : ASt) (L : List (Int × (Int → Int))) (hf : Int → Nat) : Prop := gI σ 72 10 = L.length ∧ L.length ≤ 12 ∧ ∀ (j : Nat) (x : Int × (Int → Int)), L[j]? = some x → gI σ 81 j = x.1 ∧ ∀ k : Int, 0 ≤ k → k < hf x.1 → gI σ 82 (50 * j + k) = x.2 k
def MT (σ : ASt) (z : Int) (t : Int → Int) : Prop := gI σ 72 23 = z ∧ ∀ i : Int, 0 ≤ i → i < z → gI σ 92 i = t i
def MW (σ : ASt) (w z : Int) (it : Int → Int) : Prop := (z = -1 → gI σ 93 w = 0) ∧ (0 ≤ z → gI σ 93 w = 1 ∧ gI σ 94 w = z) ∧ ∀ k : Int, 0 ≤ k → k < 60 → gL σ 95 (60 * w + k) = it k
def MKp (σ : ASt) (α : AB) : Prop := gI σ 72 33 = aK α ∧ (aK α = 1 → (∀ i : Int, 0 ≤ i → i < 3 → gI σ 98 i = aN α (3 + i.toNat) ∧ ∀ k : Int, 0 ≤ k → k < aN α (3 + i.toNat) → gI σ 97 (8 * i + k) = aS α (3 + i.toNat) k) ∧ (∀ r : Int, 0 ≤ r → r < 6 → gI σ 99 r = aB α (6 + r.toNat) ∧ (0 ≤ aB α (6 + r.toNat) → ∀ k : Int, 0 ≤ k → k < aH α (3 + (aB α (6 + r.toNat)).toNat) → gI σ 100 (50 * r + k) = aD α (6 + r.toNat) k)))
/-- every digit that lies anywhere may be one -/
def MD (σ : ASt) : Prop := ∀ j : Int, 0 ≤ j → (j < 300 → 0 ≤ gI σ 79 j ∧ gI σ 79 j ≤ 99) ∧ (j < 600 → 0 ≤ gI σ 82 j ∧ gI σ 82 j ≤ 99) ∧ (j < 300 → 0 ≤ gI σ 100 j ∧ gI σ 100 j ≤ 99)
def MBs (σ : ASt) (α : AB) : Prop := ∀ i : Int, 0 ≤ i → i < 3 → MB σ i (aS α i.toNat) (aN α i.toNat) (aH α i.toNat)
def MRs (σ : ASt) (α : AB) : Prop := ∀ r : Int, 0 ≤ r → r < 6 → MR σ r (rB α r) (rD α r) (rH α r)
def MWs (σ : ASt) (α : AB) : Prop := ∀ w : Int, 0 ≤ w → w < 3 → MW σ w (aZ α w.toNat) (aI α w.toNat)
def MAll (σ : ASt) (α : AB) : Prop := MBs σ α ∧ MRs σ α ∧ ML σ (aL α) (rH α) ∧ MT σ (aTZ α) (aT α) ∧ MWs σ α ∧ MKp σ α ∧ MD σ
theorem MB.fr {P : Nat → Int → Prop} {σ τ : ASt} {i n : Int} {s : Int → Int} {h : Nat} (H : Fr P σ τ) (hp : ∀ a j, 73 ≤ a → a ≤ 77 → P a j) (C : MB σ i s n h) : MB τ i s n h :=
  ⟨(H.I (hp _ _ (by omega) (by omega))).trans C.1, (H.I (hp _ _ (by omega) (by omega))).trans C.2.1, (H.L (hp _ _ (by omega) (by omega))).trans C.2.2.1, fun k a b => (H.I (hp _ _ (by omega) (by omega))).trans (C.2.2.2.1 k a b), fun k a b => (H.L (hp _ _ (by omega) (by omega))).trans (C.2.2.2.2 k a b)⟩
theorem MR.fr {P : Nat → Int → Prop} {σ τ : ASt} {r b : Int} {d : Int → Int} {h : Nat} (H : Fr P σ τ) (h43 : 0 ≤ b → h ≤ 43) (h1 : P 78 r) (h2 : ∀ j, 50 * r ≤ j → j < 50 * r + 50 → P 79 j) (C : MR σ r b d h) : MR τ r b d h :=
  ⟨(H.I h1).trans C.1, fun q k a c => (H.I (h2 _ (by omega) (by have := h43 q; omega))).trans (C.2 q k a c)⟩
theorem ML.fr {P : Nat → Int → Prop} {σ τ : ASt} {L : List (Int × (Int → Int))} {hf : Int → Nat} (H : Fr P σ τ) (h0 : P 72 10) (h1 : ∀ j, P 81 j) (h2 : ∀ j, P 82 j) (C : ML σ L hf) : ML τ L hf :=
  ⟨(H.I h0).trans C.1, C.2.1, fun j x hx => ⟨(H.I (h1 _)).trans (C.2.2 j x hx).1, fun k a b => (H.I (h2 _)).trans ((C.2.2 j x hx).2 k a b)⟩⟩
theorem MT.fr {P : Nat → Int → Prop} {σ τ : ASt} {z : Int} {t : Int → Int} (H : Fr P σ τ) (h0 : P 72 23) (h1 : ∀ j, P 92 j) (C : MT σ z t) : MT τ z t := ⟨(H.I h0).trans C.1, fun i a b => (H.I (h1 _)).trans (C.2 i a b)⟩
theorem MW.fr {P : Nat → Int → Prop} {σ τ : ASt} {w z : Int} {it : Int → Int} (H : Fr P σ τ) (h0 : P 93 w) (h1 : P 94 w) (h2 : ∀ j, 60 * w ≤ j → j < 60 * w + 60 → P 95 j) (C : MW σ w z it) : MW τ w z it := ⟨fun q => (H.I h0).trans (C.1 q), fun q => ⟨(H.I h0).trans (C.2.1 q).1, (H.I h1).trans (C.2.1 q).2⟩, fun k a b => (H.L (h2 _ (by omega) (by omega))).trans (C.2.2 k a b)⟩
theorem MKp.fr {P : Nat → Int → Prop} {σ τ : ASt} {α : AB} (H : Fr P σ τ) (h0 : P 72 33) (h1 : ∀ a j, 97 ≤ a → a ≤ 100 → P a j) (C : MKp σ α) : MKp τ α :=
  ⟨(H.I h0).trans C.1, fun q => ⟨fun i a b => ⟨(H.I (h1 _ _ (by omega) (by omega))).trans ((C.2 q).1 i a b).1, fun k x y => (H.I (h1 _ _ (by omega) (by omega))).trans (((C.2 q).1 i a b).2 k x y)⟩, fun r a b => ⟨(H.I (h1 _ _ (by omega) (by omega))).trans ((C.2 q).2 r a b).1, fun z k x y => (H.I (h1 _ _ (by omega) (by omega))).trans (((C.2 q).2 r a b).2 z k x y)⟩⟩⟩
theorem MD.fr {P : Nat → Int → Prop} {σ τ : ASt} (H : Fr P σ τ) (h0 : ∀ j, P 79 j) (h1 : ∀ j, P 82 j) (h2 : ∀ j, P 100 j) (C : MD σ) : MD τ := fun j j0 => by
  rw [H.I (h0 j), H.I (h1 j), H.I (h2 j)]; exact C j j0
/-- what a call may change in passing -/
def WK (a : Nat) (j : Int) : Prop := a ≠ 80 ∧ ¬ (83 ≤ a ∧ a ≤ 91) ∧ a ≠ 96 ∧ ¬ (a = 72 ∧ (j = 15 ∨ j = 19 ∨ j = 24))
theorem wk_ar {a : Nat} {j : Int} (h : (73 ≤ a ∧ a ≤ 79) ∨ a = 81 ∨ a = 82 ∨ (92 ≤ a ∧ a ≤ 95) ∨ (97 ≤ a)) : WK a j := by
  refine ⟨?_, ?_, ?_, ?_⟩ <;> omega
theorem wk_72 {j : Int} (h : j = 10 ∨ j = 23 ∨ j = 33) : WK 72 j := by
  refine ⟨?_, ?_, ?_, ?_⟩ <;> omega
theorem rH43 {α : AB} (W : WF α) {r : Int} (r0 : 0 ≤ r) (r6 : r < 6) (b0 : 0 ≤ rB α r) : rH α r ≤ 43 := by
  have w := W.2.2.1 r.toNat (live_r (by omega))
  have e : rB α r = aB α r.toNat := rfl
  exact (W.2.1 (aB α r.toNat).toNat (live_b (by omega))).h43
theorem MAll.fr {P : Nat → Int → Prop} {σ τ : ASt} {α : AB} (W : WF α) (H : Fr P σ τ) (h0 : ∀ j, j = 10 ∨ j = 23 ∨ j = 33 → P 72 j) (h1 : ∀ a j, (73 ≤ a ∧ a ≤ 79) ∨ a = 81 ∨ a = 82 ∨ (92 ≤ a ∧ a ≤ 95) ∨ (97 ≤ a) → P a j) (C : MAll σ α) : MAll τ α :=
  ⟨fun i a b => (C.1 i a b).fr H (fun _ _ x y => h1 _ _ (Or.inl ⟨x, by omega⟩)), fun r a b => (C.2.1 r a b).fr H (fun q => rH43 W a b q) (h1 _ _ (by omega)) (fun _ _ _ => h1 _ _ (by omega)), C.2.2.1.fr H (h0 _ (by omega)) (fun _ => h1 _ _ (by omega)) (fun _ => h1 _ _ (by omega)), C.2.2.2.1.fr H (h0 _ (by omega)) (fun _ => h1 _ _ (by omega)), fun w a b => (C.2.2.2.2.1 w a b).fr H (h1 _ _ (by omega)) (h1 _ _ (by omega)) (fun _ _ _ => h1 _ _ (by omega)), C.2.2.2.2.2.1.fr H (h0 _ (by omega)) (fun _ _ _ _ => h1 _ _ (by omega)), C.2.2.2.2.2.2.fr H (fun _ => h1 _ _ (by omega)) (fun _ => h1 _ _ (by omega)) (fun _ => h1 _ _ (by omega))⟩
theorem MAll.wk {σ τ : ASt} {α : AB} (W : WF α) (H : Fr WK σ τ) (C : MAll σ α) : MAll τ α := C.fr W H (fun _ h => wk_72 h) (fun _ _ h => wk_ar h)
/-- a change of the class's part alone -/
theorem CO.fr {σ τ : ASt} {α : AB} (H : CO σ τ) (C : MAll σ α) (W : WF α) : MAll τ α := by
  have hI : ∀ a j, 72 ≤ a → gI τ a j = gI σ a j := fun a j h => H.I h j
  have hL : ∀ a j, 72 ≤ a → gL τ a j = gL σ a j := fun a j h => H.L h j
  obtain ⟨c1, c2, c3, c4, c5, c6, c7⟩ := C
  refine ⟨fun i a b => ?_, fun r a b => ?_, ?_, ?_, fun w a b => ?_, ?_, ?_⟩
  · have c := c1 i a b
    unfold MB at c ⊢
    simp only [hI _ _ (show 72 ≤ 74 by omega), hI _ _ (show 72 ≤ 75 by omega), hL _ _ (show 72 ≤ 77 by omega), hI _ _ (show 72 ≤ 73 by omega), hL _ _ (show 72 ≤ 76 by omega)]
    exact c
  · have c := c2 r a b
    unfold MR at c ⊢
    simp only [hI _ _ (show 72 ≤ 78 by omega), hI _ _ (show 72 ≤ 79 by omega)]
    exact c
  · unfold ML at c3 ⊢
    simp only [hI _ _ (show 72 ≤ 72 by omega), hI _ _ (show 72 ≤ 81 by omega), hI _ _ (show 72 ≤ 82 by omega)]
    exact c3
  · unfold MT at c4 ⊢
    simp only [hI _ _ (show 72 ≤ 72 by omega), hI _ _ (show 72 ≤ 92 by omega)]
    exact c4
  · have c := c5 w a b
    unfold MW at c ⊢
    simp only [hI _ _ (show 72 ≤ 93 by omega), hI _ _ (show 72 ≤ 94 by omega), hL _ _ (show 72 ≤ 95 by omega)]
    exact c
  · unfold MKp at c6 ⊢
    simp only [hI _ _ (show 72 ≤ 72 by omega), hI _ _ (show 72 ≤ 97 by omega), hI _ _ (show 72 ≤ 98 by omega), hI _ _ (show 72 ≤ 99 by omega), hI _ _ (show 72 ≤ 100 by omega)]
    exact c6
  · unfold MD at c7 ⊢
    simp only [hI _ _ (show 72 ≤ 79 by omega), hI _ _ (show 72 ≤ 82 by omega), hI _ _ (show 72 ≤ 100 by omega)]
    exact c7
/-! the reference's helpers -/
theorem sp_in {v a b : Int} {σ : ASt} {QT QF : ASt → Prop} (h1 : i64 v) (h2 : i64 a) (h3 : i64 b) (hT : a ≤ v → v ≤ b → QT σ) (hF : v < a ∨ b < v → QF σ) : EvZ K_X8_in [.long (lI v), .long (lI a), .long (lI b)] σ QT QF :=
  eX8_in h1 h2 h3 ⟨fun q => hF (Or.inl q), fun q => ⟨fun r => hF (Or.inr r), fun r => hT q r⟩⟩
theorem sp_mReel {r : Int} {σ : ASt} {QT QF : ASt → Prop} (hr : i32 r) (hT : 0 ≤ r → r < 6 → QT σ) (hF : r < 0 ∨ 5 < r → QF σ) : EvZ K_X8_isReel [.int (iI r)] σ QT QF :=
  eX8_isReel hr (sp_in (by omega) (by omega) (by omega) (fun a b => hT a (by omega)) hF)
theorem sp_mBase {r : Int} {σ : ASt} {QT QF : ASt → Prop} (hr : i32 r) (hT : 0 ≤ r → r < 3 → QT σ) (hF : r < 0 ∨ 2 < r → QF σ) : EvZ K_X8_isBase [.int (iI r)] σ QT QF :=
  eX8_isBase hr (sp_in (by omega) (by omega) (by omega) (fun a b => hT a (by omega)) hF)
theorem sp_mRow {r : Int} {σ : ASt} {QT QF : ASt → Prop} (hr : i32 r) (hT : 0 ≤ r → r < 3 → QT σ) (hF : r < 0 ∨ 2 < r → QF σ) : EvZ K_X8_isRow [.int (iI r)] σ QT QF :=
  eX8_isRow hr (sp_in (by omega) (by omega) (by omega) (fun a b => hT a (by omega)) hF)
theorem sp_mEmpty {σ : ASt} {α : AB} (W : WF α) (C : MRs σ α) {r : Int} (r0 : 0 ≤ r) (r6 : r < 6) {QT QF : ASt → Prop} (hT : rB α r = -1 → QT σ) (hF : ¬ rB α r = -1 → 0 ≤ rB α r → rB α r ≤ 2 → QF σ) : EvZ K_X8_isEmpty [.ref 72, .int (iI r)] σ QT QF := by
  have w := W.2.2.1 r.toNat (live_r (by omega))
  have e : rB α r = aB α r.toNat := rfl
  refine eX8_isEmpty ⟨⟨r0, r6⟩, ?_⟩
  rw [(C r r0 r6).1]
  exact ⟨by omega, fun q => hF q (by omega) (by omega), hT⟩
theorem sp_refusal {σ : ASt} {α : AB} (W : WF α) (C : MRs σ α) {r : Int} (hr : i32 r) {Q : Int → ASt → Prop} (h1 : ¬ okR r → Q (-2) σ) (h2 : okR r → rB α r = -1 → Q (-11) σ) (h3 : 0 ≤ r → r < 6 → ¬ rB α r = -1 → 0 ≤ rB α r → rB α r ≤ 2 → Q 0 σ) : EvI K_X8_refusal [.ref 72, .int (iI r)] σ Q :=
  eX8_refusal (sp_mReel hr (fun r0 r6 => sp_mEmpty W C r0 r6 (fun q => h2 ⟨r0, by omega⟩ q) (fun q q0 q2 => h3 r0 r6 q q0 q2)) (fun q => h1 (by omega)))
/-- the number of a reel's places -/
theorem sp_mhigh {r b : Int} {h : Nat} {σ : ASt} (r0 : 0 ≤ r) (r6 : r < 6) (b0 : 0 ≤ b) (b2 : b ≤ 2) (h43 : h ≤ 43) (e1 : gI σ 78 r = b) (e2 : gI σ 75 b = h) {Q : Int → ASt → Prop} (hq : Q h σ) : EvI K_X8_high [.ref 72, .int (iI r)] σ Q := by
  refine eX8_high ⟨⟨r0, r6⟩, ?_⟩
  rw [e1, e2]
  exact ⟨⟨b0, by omega⟩, by omega, hq⟩
theorem sp_refusal_ {σ : ASt} {α : AB} (W : WF α) (C : MAll σ α) {r k z : Int} (hr : i32 r) (hk : i32 k) (hz : z = 1 ∨ z = 2) {Q : Int → ASt → Prop} (h1 : ¬ okR r → Q (-2) σ) (h2 : okR r → rB α r = -1 → Q (-11) σ) (h3 : 0 ≤ r → r < 6 → ¬ rB α r = -1 → 0 ≤ rB α r → rB α r ≤ 2 → ¬ (0 ≤ k ∧ k ≤ rH α r - z) → Q (-12) σ) (h4 : 0 ≤ r → r < 6 → ¬ rB α r = -1 → 0 ≤ rB α r → rB α r ≤ 2 → 0 ≤ k → k ≤ rH α r - z → Q 0 σ) : EvI K_X8_refusal_ [.ref 72, .int (iI r), .int (iI k), .int (iI z)] σ Q := by
  refine eX8_refusal_ hk (sp_refusal W C.2.1 hr (fun q => ⟨fun y => by omega, fun _ => h1 q⟩) (fun q q2 => ⟨fun y => by omega, fun _ => h2 q q2⟩) (fun r0 r6 q b0 b2 => ⟨fun _ => ?_, fun y => absurd rfl y⟩))
  have h43 := rH43 W r0 r6 b0
  have m := C.1 (rB α r) b0 (by omega)
  refine sp_mhigh r0 r6 b0 b2 h43 (C.2.1 r r0 r6).1 m.2.1 ⟨by omega, ?_⟩
  exact sp_in (by omega) (by omega) (by omega) (fun a b => h4 r0 r6 q b0 b2 a b) (fun y => h3 r0 r6 q b0 b2 (by omega))
theorem sp_digitAt {r k x : Int} {σ : ASt} (r0 : 0 ≤ r) (r6 : r < 6) (k0 : 0 ≤ k) (k1 : k < 50) (e : gI σ 79 (50 * r + k) = x) (hx : i32 x) {Q : Int → ASt → Prop} (hq : Q x σ) : EvI K_X8_digitAt [.ref 72, .int (iI r), .int (iI k)] σ Q := by
  refine eX8_digitAt ⟨⟨by omega, by omega⟩, ?_⟩
  rw [e]; exact ⟨hx, hq⟩
theorem per_mod {s : Int → Int} {n : Int} (n1 : 1 ≤ n) (hp : ∀ k : Int, 0 ≤ k → s (k + n) = s k) : ∀ (m : Nat) (k : Int), 0 ≤ k → k < m → s (k % n) = s k := by
  intro m
  induction m with
  | zero => intro k k0 hk; omega
  | succ m ih =>
    intro k k0 hk
    by_cases q : k < n
    · rw [Int.emod_eq_of_lt k0 q]
    · have h1 := ih (k - n) (by omega) (by omega)
      rw [Int.sub_emod_right] at h1
      have h2 := hp (k - n) (by omega)
      rw [Int.sub_add_cancel] at h2
      rw [h1, h2]
theorem sp_step {b k n : Int} {s : Int → Int} {h : Nat} {σ : ASt} (b0 : 0 ≤ b) (b2 : b ≤ 2) (B : BOK s n h) (M : MB σ b s n h) (k0 : 0 ≤ k) (k1 : k < 50) {Q : Int → ASt → Prop} (hq : Q (s k) σ) : EvI K_X8_step [.ref 72, .int (iI b), .int (iI k)] σ Q := by
  have n1 := B.1
  have n8 := B.2.1
  have e : Int.tmod k n = k % n := Int.tmod_eq_emod_of_nonneg k0
  have g1 := Int.emod_nonneg k (show n ≠ 0 by omega)
  have g2 := Int.emod_lt_of_pos k (show 0 < n by omega)
  have e2 := per_mod n1 B.2.2.2.1 50 k k0 (by omega)
  have sk := B.2.2.1 k k0
  refine eX8_step (by omega) ⟨⟨b0, by omega⟩, ?_⟩
  rw [M.1, e, M.2.2.2.1 _ g1 g2, e2]
  exact ⟨by omega, by omega, ⟨by omega, by omega⟩, by omega, hq⟩
theorem sp_mworth {b k n : Int} {s : Int → Int} {h : Nat} {σ : ASt} (b0 : 0 ≤ b) (b2 : b ≤ 2) (B : BOK s n h) (M : MB σ b s n h) (k0 : 0 ≤ k) (k1 : k < h) {Q : Int → ASt → Prop} (hq : Q (wo s k.toNat) σ) : EvL K_X8_worth [.ref 72, .int (iI b), .int (iI k)] σ Q := by
  have h43 := B.h43
  have w1 := B.2.2.2.2.2.1 k.toNat (by omega)
  have w2 := wo_pos B.s1 k.toNat
  refine eX8_worth ⟨⟨by omega, by omega⟩, ?_⟩
  rw [M.2.2.2.2 k k0 k1]
  exact ⟨by omega, hq⟩
