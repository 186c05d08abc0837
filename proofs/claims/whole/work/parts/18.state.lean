/-! what a state of the system is: S steps, N how many, H worths of the bases 0 .. 2 (3 .. 5 the kept ones); B base (-1: empty), D digits of the reels 0 .. 5 (6 .. 11 the kept ones); L deeds; TZ, T the tape; Z, IT the rows; K whether an image is kept -/
abbrev AB : Type := (Nat → Int → Int) × (Nat → Int) × (Nat → Nat) × (Nat → Int) × (Nat → Int → Int) × List (Int × (Int → Int)) × Int × (Int → Int) × (Nat → Int) × (Nat → Int → Int) × Int
def aS (α : AB) : Nat → Int → Int := α.1
def aN (α : AB) : Nat → Int := α.2.1
def aH (α : AB) : Nat → Nat := α.2.2.1
def aB (α : AB) : Nat → Int := α.2.2.2.1
def aD (α : AB) : Nat → Int → Int := α.2.2.2.2.1
def aL (α : AB) : List (Int × (Int → Int)) := α.2.2.2.2.2.1
def aTZ (α : AB) : Int := α.2.2.2.2.2.2.1
def aT (α : AB) : Int → Int := α.2.2.2.2.2.2.2.1
def aZ (α : AB) : Nat → Int := α.2.2.2.2.2.2.2.2.1
def aI (α : AB) : Nat → Int → Int := α.2.2.2.2.2.2.2.2.2.1
def aK (α : AB) : Int := α.2.2.2.2.2.2.2.2.2.2
/-- a function, otherwise at one place -/
def up1 {β : Type} (f : Nat → β) (k : Nat) (x : β) (j : Nat) : β := if j = k then x else f j
theorem up1_self {β : Type} (f : Nat → β) (k : Nat) (x : β) : up1 f k x k = x := if_pos rfl
theorem up1_ne {β : Type} (f : Nat → β) {k j : Nat} (x : β) (h : j ≠ k) : up1 f k x j = f j := if_neg h
/-- the base of a reel among the bases; a kept reel's is a kept one -/
def bx (r : Nat) (b : Int) : Nat := (if r < 6 then 0 else 3) + b.toNat
def live (α : AB) (i n : Nat) : Prop := i < n ∨ (i < 2 * n ∧ aK α = 1)
def WF (α : AB) : Prop :=
  (aK α = 0 ∨ aK α = 1) ∧ (∀ i, live α i 3 → BOK (aS α i) (aN α i) (aH α i)) ∧
  (∀ r, live α r 6 → -1 ≤ aB α r ∧ aB α r ≤ 2 ∧ (0 ≤ aB α r → DOK (aD α r) (aH α (bx r (aB α r))))) ∧
  (∀ x ∈ aL α, 0 ≤ x.1 ∧ x.1 < 6 ∧ 0 ≤ aB α x.1.toNat ∧ DOK x.2 (aH α (bx x.1.toNat (aB α x.1.toNat)))) ∧
  (0 ≤ aTZ α ∧ aTZ α ≤ 80 ∧ ∀ i : Int, 0 ≤ i → i < aTZ α → 0 ≤ aT α i ∧ aT α i ≤ 127) ∧
  (∀ w, w < 3 → -1 ≤ aZ α w ∧ aZ α w ≤ 60 ∧ ∀ k : Int, 0 ≤ k → k < 60 → i64 (aI α w k))
/-! the class's part of a state: places below 72 -/
def CR (σ : ASt) (r : Nat) (b : Int) (d : Int → Int) : Prop := (b = -1 → gP σ (42 + r) 0 = none) ∧ (0 ≤ b → gP σ (42 + r) 0 = some (24 + b.toNat) ∧ CD σ (42 + r + 12) d)
theorem CR.ag {P : Nat → Prop} {σ τ : ASt} {r : Nat} {b : Int} {d : Int → Int} (H : Ag P σ τ) (h0 : P (42 + r)) (h1 : P (42 + r + 12)) (C : CR σ r b d) : CR τ r b d := ⟨fun q => (H.P h0 0).trans (C.1 q), fun q => ⟨(H.P h0 0).trans (C.2 q).1, (C.2 q).2.ag H h1⟩⟩
def CBs (σ : ASt) (α : AB) : Prop := (∀ i : Nat, i < 3 → gI σ (24 + i) 0 = i) ∧ ∀ i, live α i 3 → CB σ (24 + i) (aS α i) (aN α i) (aH α i)
def CRs (σ : ASt) (α : AB) : Prop := ∀ r, live α r 6 → CR σ r (aB α r) (aD α r)
def CWs (σ : ASt) (α : AB) : Prop := ∀ w, w < 3 → CW σ (66 + w) (aZ α w) (aI α w)
def CMk (σ : ASt) : Prop := ∃ f t : Nat, gP σ 14 0 = some f ∧ gP σ 14 1 = some t ∧ ((f = 16 ∧ t = 17) ∨ (f = 17 ∧ t = 16))
def CAll (σ : ASt) (α : AB) : Prop := CBs σ α ∧ CRs σ α ∧ CL σ (aL α) ∧ CT σ (aTZ α) (aT α) ∧ CWs σ α ∧ gI σ 0 8 = aK α ∧ CMk σ
theorem live.lt {α : AB} {i n : Nat} (h : live α i n) : i < 2 * n := by rcases h with h | h <;> omega
theorem CBs.ag {P : Nat → Prop} {σ τ : ASt} {α : AB} (H : Ag P σ τ) (hp : ∀ b, 24 ≤ b → b < 42 → P b) (C : CBs σ α) : CBs τ α :=
  ⟨fun i hi => (H.I (hp _ (by omega) (by omega)) 0).trans (C.1 i hi), fun i hi => by have := hi.lt; exact (C.2 i hi).ag H (hp _ (by omega) (by omega)) (hp _ (by omega) (by omega)) (hp _ (by omega) (by omega))⟩
theorem CRs.ag {P : Nat → Prop} {σ τ : ASt} {α : AB} (H : Ag P σ τ) (hp : ∀ b, 42 ≤ b → b < 66 → P b) (C : CRs σ α) : CRs τ α := fun r hr => by have := hr.lt; exact (C r hr).ag H (hp _ (by omega) (by omega)) (hp _ (by omega) (by omega))
theorem CWs.ag {P : Nat → Prop} {σ τ : ASt} {α : AB} (H : Ag P σ τ) (hp : ∀ b, 66 ≤ b → b < 72 → P b) (C : CWs σ α) : CWs τ α := fun w hw => (C w hw).ag H (hp _ (by omega) (by omega)) (hp _ (by omega) (by omega))
theorem CMk.ag {P : Nat → Prop} {σ τ : ASt} (H : Ag P σ τ) (hp : P 14) (C : CMk σ) : CMk τ := by
  obtain ⟨f, t, h1, h2, h3⟩ := C
  exact ⟨f, t, (H.P hp 0).trans h1, (H.P hp 1).trans h2, h3⟩
/-- the whole class, where nothing of it but working rows changes -/
theorem CAll.ag {P : Nat → Prop} {σ τ : ASt} {α : AB} (H : Ag P σ τ) (h0 : P 0) (h9 : P 9) (h10 : P 10) (h11 : P 11) (h12 : P 12) (h13 : P 13) (h14 : P 14) (hp : ∀ b, 24 ≤ b → b < 72 → P b) (C : CAll σ α) : CAll τ α :=
  ⟨C.1.ag H (fun b x y => hp b x (by omega)), C.2.1.ag H (fun b x y => hp b (by omega) (by omega)), C.2.2.1.ag H h11 h12 h13, C.2.2.2.1.ag H h9 h10, C.2.2.2.2.1.ag H (fun b x y => hp b (by omega) y), (H.I h0 8).trans C.2.2.2.2.2.1, C.2.2.2.2.2.2.ag H h14⟩
/-- the reference's part stays; the class's part stays -/
abbrev CO (σ τ : ASt) : Prop := Ag (fun b => 72 ≤ b) σ τ
abbrev MO (σ τ : ASt) : Prop := Ag (fun b => b < 72) σ τ
theorem CAll.mo {σ τ : ASt} {α : AB} (H : MO σ τ) (C : CAll σ α) : CAll τ α := C.ag H (by omega) (by omega) (by omega) (by omega) (by omega) (by omega) (by omega) (fun b x y => y)
/-! shapes -/
theorem sh_b {i : Nat} (h : i < 6) : shp (24 + i) = (0, 0, 0) := (by decide +kernel : ∀ i, i < 6 → shp (24 + i) = (0, 0, 0)) i h
theorem sh_r {r : Nat} (h : r < 12) : shp (42 + r) = (0, 4, 0) := (by decide +kernel : ∀ r, r < 12 → shp (42 + r) = (0, 4, 0)) r h
theorem sh_d {r : Nat} (h : r < 12) : shp (42 + r + 12) = (1, 0, 43) := sf_4_1 (sh_r h)
theorem sh_w {w : Nat} (h : w < 3) : shp (66 + w) = (0, 2, 0) := (by decide +kernel : ∀ w, w < 3 → shp (66 + w) = (0, 2, 0)) w h
/-! filling, emptying a reel; deeds -/
theorem sp_fillReel {r : Int} (r0 : 0 ≤ r) (r6 : r < 6) {b : Nat} (hb : b < 6) {a : Nat} (ha : shp a = (1, 0, 43)) {d : Int → Int} (dr : ∀ k : Int, 0 ≤ k → k < 43 → 0 ≤ d k ∧ d k ≤ 99) {σ : ASt} (hd : CD σ a d) {L : List (Int × (Int → Int))} (C : CL σ L) (hx : ∀ x ∈ L, i32 x.1) {Q : Int → ASt → Prop} (hq : ∀ τ, Ag (fun c => c ≠ 42 + r.toNat ∧ c ≠ 42 + r.toNat + 12 ∧ DP c) σ τ → gP τ (42 + r.toNat) 0 = some (24 + b) → CD τ (42 + r.toNat + 12) d → CL τ (fgt L r) → Q (ct d 43) τ) : EvI K_X7_fillReel [.ref 0, .int (iI r), .ref (24 + b), .ref a] σ Q := by
  have hr := sh_r (r := r.toNat) (by omega)
  have na : a ≠ 42 + r.toNat := fun q => by rw [q, hr] at ha; cases ha
  refine eX7_fillReel (sh_b hb) ha (sp_reelAt (by omega) (fun _ _ => ?_) (fun q => by omega))
  have A1 : Ag (fun c => c ≠ 42 + r.toNat) σ (sP σ (42 + r.toNat) 0 (some (24 + b))) := ag_sP (fun _ q => q)
  refine sp_copyDigits ha (sf_4_1 hr) (hd.ag A1 na) (fun τ A2 hd2 => ?_)
  refine sp_forget (L := L) ((C.ag A1 (by omega) (by omega) (by omega)).ag A2 (by omega) (by omega) (by omega)) hx (by omega) (fun υ A3 C3 => ?_)
  have hd3 : CD υ (42 + r.toNat + 12) d := hd2.ag A3 ⟨by omega, by omega, by omega⟩
  refine sp_countNotZero (sf_4_1 hr) hd3 dr (hq υ ?_ ?_ hd3 C3)
  · exact ((A1.mono (fun c h => h.1)).trans (A2.mono (fun c h => h.2.1))).trans (A3.mono (fun c h => h.2.2))
  · rw [A3.P ⟨by omega, by omega, by omega⟩, A2.P (by omega), gP_sP, if_pos ⟨rfl, rfl⟩]
theorem sp_clearReel {r : Int} (r0 : 0 ≤ r) (r6 : r < 6) {σ : ASt} {L : List (Int × (Int → Int))} (C : CL σ L) (hx : ∀ x ∈ L, i32 x.1) {Q : ASt → Prop} (hq : ∀ τ, Ag (fun c => c ≠ 42 + r.toNat ∧ DP c) σ τ → gP τ (42 + r.toNat) 0 = none → CL τ (fgt L r) → Q τ) : EvV K_X7_clearReel [.ref 0, .int (iI r)] σ Q := by
  refine eX7_clearReel (sp_reelAt (by omega) (fun _ _ => ?_) (fun q => by omega))
  have A1 : Ag (fun c => c ≠ 42 + r.toNat) σ (sP σ (42 + r.toNat) 0 none) := ag_sP (fun _ q => q)
  refine sp_forget (L := L) (C.ag A1 (by omega) (by omega) (by omega)) hx (by omega) (fun υ A3 C3 => hq υ ((A1.mono (fun c h => h.1)).trans (A3.mono (fun c h => h.2))) ?_ C3)
  rw [A3.P ⟨by omega, by omega, by omega⟩, gP_sP, if_pos ⟨rfl, rfl⟩]
/-! operations on what a state is -/
def sR (α : AB) (r : Nat) (b : Int) (d : Int → Int) (L : List (Int × (Int → Int))) : AB := (aS α, aN α, aH α, up1 (aB α) r b, up1 (aD α) r d, L, aTZ α, aT α, aZ α, aI α, aK α)
def sT (α : AB) (z : Int) (t : Int → Int) : AB := (aS α, aN α, aH α, aB α, aD α, aL α, z, t, aZ α, aI α, aK α)
def sW (α : AB) (w : Nat) (z : Int) (it : Int → Int) : AB := (aS α, aN α, aH α, aB α, aD α, aL α, aTZ α, aT α, up1 (aZ α) w z, up1 (aI α) w it, aK α)
theorem WF.L32 {α : AB} (W : WF α) : ∀ x ∈ aL α, i32 x.1 := fun x hx => by
  have := W.2.2.2.1 x hx
  omega
theorem fgt_mem {L : List (Int × (Int → Int))} {r : Int} {x : Int × (Int → Int)} (h : x ∈ fgt L r) : x ∈ L ∧ x.1 ≠ r := by
  have := List.mem_filter.mp h
  exact ⟨this.1, by simpa using this.2⟩
theorem live_r {α : AB} {r : Nat} (h : r < 6) : live α r 6 := Or.inl h
theorem live_b {α : AB} {i : Nat} (h : i < 3) : live α i 3 := Or.inl h
theorem bx_r {r : Nat} {b : Int} (h : r < 6) : bx r b = b.toNat := by unfold bx; rw [if_pos h]; omega
/-- a reel filled by other means: its deeds go -/
theorem WF.fill {α : AB} (W : WF α) {r : Int} (r0 : 0 ≤ r) (r6 : r < 6) {b : Int} (b0 : -1 ≤ b) (b2 : b ≤ 2) {d : Int → Int} (hd : 0 ≤ b → DOK d (aH α b.toNat)) : WF (sR α r.toNat b d (fgt (aL α) r)) := by
  obtain ⟨w1, w2, w3, w4, w5, w6⟩ := W
  refine ⟨w1, w2, fun q hq => ?_, fun x hx => ?_, w5, w6⟩
  · by_cases e : q = r.toNat
    · subst e
      show -1 ≤ up1 (aB α) r.toNat b r.toNat ∧ up1 (aB α) r.toNat b r.toNat ≤ 2 ∧ (0 ≤ up1 (aB α) r.toNat b r.toNat → DOK (up1 (aD α) r.toNat d r.toNat) (aH α (bx r.toNat (up1 (aB α) r.toNat b r.toNat))))
      rw [up1_self, up1_self, bx_r (by omega)]
      exact ⟨b0, b2, hd⟩
    · show -1 ≤ up1 (aB α) r.toNat b q ∧ up1 (aB α) r.toNat b q ≤ 2 ∧ (0 ≤ up1 (aB α) r.toNat b q → DOK (up1 (aD α) r.toNat d q) (aH α (bx q (up1 (aB α) r.toNat b q))))
      rw [up1_ne _ _ e, up1_ne _ _ e]
      exact w3 q hq
  · have hm := fgt_mem hx
    have h4 := w4 x hm.1
    have hne : x.1.toNat ≠ r.toNat := by have := hm.2; omega
    show 0 ≤ x.1 ∧ x.1 < 6 ∧ 0 ≤ up1 (aB α) r.toNat b x.1.toNat ∧ DOK x.2 (aH α (bx x.1.toNat (up1 (aB α) r.toNat b x.1.toNat)))
    rw [up1_ne _ _ hne]
    exact h4
/-- a reel turned by a deed -/
theorem WF.deed {α : AB} (W : WF α) {r : Int} (r0 : 0 ≤ r) (r6 : r < 6) (hb : 0 ≤ aB α r.toNat) {d : Int → Int} (hd : DOK d (aH α (aB α r.toNat).toNat)) : WF (sR α r.toNat (aB α r.toNat) d (pushD (aL α) (r, aD α r.toNat))) := by
  obtain ⟨w1, w2, w3, w4, w5, w6⟩ := W
  have hB : ∀ q, up1 (aB α) r.toNat (aB α r.toNat) q = aB α q := fun q => by
    by_cases e : q = r.toNat
    · rw [e, up1_self]
    · rw [up1_ne _ _ e]
  refine ⟨w1, w2, fun q hq => ?_, fun x hx => ?_, w5, w6⟩
  · show -1 ≤ up1 (aB α) r.toNat (aB α r.toNat) q ∧ up1 (aB α) r.toNat (aB α r.toNat) q ≤ 2 ∧ (0 ≤ up1 (aB α) r.toNat (aB α r.toNat) q → DOK (up1 (aD α) r.toNat d q) (aH α (bx q (up1 (aB α) r.toNat (aB α r.toNat) q))))
    rw [hB]
    by_cases e : q = r.toNat
    · subst e
      rw [up1_self, bx_r (by omega)]
      exact ⟨(w3 _ hq).1, (w3 _ hq).2.1, fun _ => hd⟩
    · rw [up1_ne _ _ e]; exact w3 q hq
  · show 0 ≤ x.1 ∧ x.1 < 6 ∧ 0 ≤ up1 (aB α) r.toNat (aB α r.toNat) x.1.toNat ∧ DOK x.2 (aH α (bx x.1.toNat (up1 (aB α) r.toNat (aB α r.toNat) x.1.toNat)))
    rw [hB]
    have hx' : x ∈ (if (aL α).length < 12 then aL α else (aL α).tail) ++ [(r, aD α r.toNat)] := hx
    rcases List.mem_append.mp hx' with h | h
    · refine w4 x ?_
      by_cases c : (aL α).length < 12
      · rw [if_pos c] at h; exact h
      · rw [if_neg c] at h; exact List.mem_of_mem_tail h
    · rw [List.mem_singleton.mp h]
      exact ⟨r0, r6, hb, by have := (w3 r.toNat (live_r (by omega))).2.2 hb; exact this⟩
