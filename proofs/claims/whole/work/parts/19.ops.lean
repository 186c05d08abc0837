/-! what each call answers, and the state behind it, in the words of part 18 -/
noncomputable def pit {β : Type} (p : Prop) (a b : β) : β := @ite β p (Classical.propDecidable p) a b
theorem pit_pos {β : Type} {p : Prop} {a b : β} (h : p) : pit p a b = a := by unfold pit; exact if_pos h
theorem pit_neg {β : Type} {p : Prop} {a b : β} (h : ¬ p) : pit p a b = b := by unfold pit; exact if_neg h
abbrev okB (b : Int) : Prop := 0 ≤ b ∧ b ≤ 2
abbrev okR (r : Int) : Prop := 0 ≤ r ∧ r ≤ 5
abbrev nO : Int := -9223372036854775808
/-- of a reel: its base's steps, worths, its digits, its value -/
def rS (α : AB) (r : Int) : Int → Int := aS α (aB α r.toNat).toNat
def rN (α : AB) (r : Int) : Int := aN α (aB α r.toNat).toNat
def rH (α : AB) (r : Int) : Nat := aH α (aB α r.toNat).toNat
def rD (α : AB) (r : Int) : Int → Int := aD α r.toNat
def rB (α : AB) (r : Int) : Int := aB α r.toNat
def rV (α : AB) (r : Int) : Int := va (rS α r) (rD α r) (rH α r)
def rTop (α : AB) (r : Int) : Int := wo (rS α r) (rH α r) - 1
/-- a reel turned by a deed -/
def turn (α : AB) (r : Int) (d : Int → Int) : AB := sR α r.toNat (rB α r) d (pushD (aL α) (r, rD α r))
/-- a reel filled otherwise -/
def fill (α : AB) (r b : Int) (d : Int → Int) : AB := sR α r.toNat b d (fgt (aL α) r)
noncomputable def kd (s : Int → Int) (n : Int) : Int := pit (EVN s n) (if s 0 = 1 then 2 else if s 0 = 2 then 3 else 1) 0
noncomputable def oOf (α : AB) (b w : Int) : Int := pit (okB b ∧ 0 ≤ w ∧ w ≤ 2) (pit (w = 0) (kd (aS α b.toNat) (aN α b.toNat)) (pit (w = 1) (aN α b.toNat) (aH α b.toNat))) (-2)
noncomputable def oWorth (α : AB) (b k w : Int) : Int := pit (okB b ∧ (0 ≤ k ∧ k < aH α b.toNat) ∧ 0 ≤ w ∧ w ≤ 1) (pit (w = 0) (wo (aS α b.toNat) k.toNat) (aS α b.toNat k)) nO
noncomputable def oTop (α : AB) (b : Int) : Int := pit (okB b) (wo (aS α b.toNat) (aH α b.toNat) - 1) nO
noncomputable def oTaken (α : AB) (b k : Int) : Int := pit (okB b ∧ 0 ≤ k ∧ k ≤ 3) (pit (k = 0 ∨ kd (aS α b.toNat) (aN α b.toNat) = k ∨ (k = 1 ∧ kd (aS α b.toNat) (aN α b.toNat) ≠ 0)) (kd (aS α b.toNat) (aN α b.toNat)) (-13)) (-2)
noncomputable def oWrite (α : AB) (r b v : Int) : Int × AB := pit (okR r ∧ okB b ∧ 0 ≤ v) (pit (v ≤ wo (aS α b.toNat) (aH α b.toNat) - 1) (ct (gd (aS α b.toNat) (aH α b.toNat) v) 43, fill α r b (gd (aS α b.toNat) (aH α b.toNat) v)) (-3, α)) (-2, α)
noncomputable def oEmpty (α : AB) (r : Int) : Int × AB := pit (okR r) (pit (rB α r = -1) (-11, α) (1, fill α r (-1) (rD α r))) (-2, α)
noncomputable def oTold (α : AB) (r w : Int) : Int := pit (okR r ∧ 0 ≤ w ∧ w ≤ 3) (pit (rB α r = -1) (-11) (pit (w = 0) (rB α r) (pit (w = 1) (pit (LEG (rS α r) (rH α r) (rD α r)) 1 0) (pit (w = 2) (ct (rD α r) 43) (hg (rD α r) 43))))) (-2)
noncomputable def oAt (α : AB) (r k : Int) : Int := pit (okR r) (pit (rB α r = -1) (-11) (pit (0 ≤ k ∧ k < rH α r) (rD α r k) (-12))) (-2)
noncomputable def oValue (α : AB) (r : Int) : Int := pit (okR r) (pit (rB α r = -1) nO (rV α r)) nO
noncomputable def oDigit (α : AB) (r k d : Int) : Int × AB := pit (okR r ∧ 0 ≤ d ∧ d ≤ 99) (pit (rB α r = -1) (-11, α) (pit (0 ≤ k ∧ k < rH α r) (rD α r k, turn α r (st1 (rD α r) k d)) (-12, α))) (-2, α)
/-- a carry (z 1), a borrow (-1): y is the place that is answered -/
noncomputable def oExch (α : AB) (r k z y : Int) : Int × AB := pit (okR r) (pit (rB α r = -1) (-11, α) (pit (0 ≤ k ∧ k ≤ rH α r - 2) (pit (canC (rS α r) (rH α r) (rD α r) k z) (crr (rS α r) (rD α r) k z y, turn α r (crr (rS α r) (rD α r) k z)) (-3, α)) (-12, α))) (-2, α)
/-- settled -/
noncomputable def stlP (s : Int → Int) (h : Nat) (d : Int → Int) : Nat × (Int → Int) := @dite _ (∃ p : Nat × (Int → Int), Stl s h p.1 d p.2) (Classical.propDecidable _) (fun q => Classical.choose q) (fun _ => (0, d))
theorem stlP_eq {s : Int → Int} {h : Nat} {d d' : Int → Int} {n : Nat} (H : Stl s h n d d') : stlP s h d = (n, d') := by
  have hq : ∃ p : Nat × (Int → Int), Stl s h p.1 d p.2 := ⟨(n, d'), H⟩
  unfold stlP
  rw [dif_pos hq]
  have h1 := Classical.choose_spec hq
  have h2 := h1.unique H
  exact Prod.ext h2.1 h2.2
noncomputable def oSettle (α : AB) (r : Int) : Int × AB := pit (okR r) (pit (rB α r = -1) (-11, α) (((stlP (rS α r) (rH α r) (rD α r)).1 : Int), turn α r (stlP (rS α r) (rH α r) (rD α r)).2)) (-2, α)
/-- turned to the greedy digits of v: how many are otherwise -/
def tun (α : AB) (r v : Int) : Int × AB := (ct (fun k => rD α r k - gd (rS α r) (rH α r) v k) 43, turn α r (gd (rS α r) (rH α r) v))
noncomputable def oRight (α : AB) (r : Int) : Int × AB := pit (okR r) (pit (rB α r = -1) (-11, α) (pit (rV α r ≤ rTop α r) (tun α r (rV α r)) (-3, α))) (-2, α)
noncomputable def oShift (α : AB) (r n : Int) : Int × AB := pit (okR r ∧ -9 ≤ n ∧ n ≤ 9) (pit (rB α r = -1) (-11, α) (ct (rD α r) 43 - ct (shf (rD α r) (rH α r) n) 43, turn α r (shf (rD α r) (rH α r) n))) (-2, α)
noncomputable def oOn (α : AB) (r t : Int) : Int × AB := pit (okR r ∧ -100000 ≤ t ∧ t ≤ 100000) (pit (rB α r = -1) (-11, α) (pit (LEG (rS α r) (rH α r) (rD α r)) (pit (0 ≤ rV α r + t ∧ rV α r + t ≤ rTop α r) (tun α r (rV α r + t)) (-4, α)) (-3, α))) (-2, α)
/-! the class's reels -/
theorem reel_split {σ : ASt} {α : AB} (W : WF α) (C : CAll σ α) {r : Int} (r0 : 0 ≤ r) (r6 : r < 6) {X : Prop} {Y : Nat → Prop} (h1 : rB α r = -1 → X) (h2 : ¬ rB α r = -1 → 0 ≤ rB α r → rB α r ≤ 2 → Y (24 + (rB α r).toNat)) : (gP σ (42 + r.toNat) 0 = none → X) ∧ (∀ r4 : Nat, gP σ (42 + r.toNat) 0 = some r4 → shp r4 = (0, 0, 0) ∧ Y r4) := by
  have hl := live_r (α := α) (r := r.toNat) (by omega)
  have c := C.2.1 r.toNat hl
  have w := W.2.2.1 r.toNat hl
  have e : rB α r = aB α r.toNat := rfl
  refine ⟨fun q => h1 ?_, fun x hx => ?_⟩
  · rcases Int.lt_or_le (aB α r.toNat) 0 with z | z
    · rw [e]; omega
    · rw [(c.2 z).1] at q; cases q
  · rcases Int.lt_or_le (aB α r.toNat) 0 with z | z
    · rw [c.1 (by omega)] at hx; cases hx
    · rw [(c.2 z).1] at hx
      cases hx
      exact ⟨sh_b (by omega), h2 (by rw [e]; omega) (by rw [e]; exact z) (by rw [e]; exact w.2.1)⟩
/-- what is known of a reel that isn't empty -/
theorem reel_facts {σ : ASt} {α : AB} (W : WF α) (C : CAll σ α) {r : Int} (r0 : 0 ≤ r) (r6 : r < 6) (b0 : 0 ≤ rB α r) (b2 : rB α r ≤ 2) : BOK (rS α r) (rN α r) (rH α r) ∧ DOK (rD α r) (rH α r) ∧ CB σ (24 + (rB α r).toNat) (rS α r) (rN α r) (rH α r) ∧ CD σ (42 + r.toNat + 12) (rD α r) := by
  have hl := live_r (α := α) (r := r.toNat) (by omega)
  have c := (C.2.1 r.toNat hl).2 b0
  have w := (W.2.2.1 r.toNat hl).2.2 b0
  rw [bx_r (by omega)] at w
  have hb := live_b (α := α) (i := (rB α r).toNat) (by omega)
  exact ⟨W.2.1 _ hb, w, C.1.2 _ hb, c.2⟩
theorem base_facts {σ : ASt} {α : AB} (W : WF α) (C : CAll σ α) {b : Int} (b0 : 0 ≤ b) (b3 : b < 3) : BOK (aS α b.toNat) (aN α b.toNat) (aH α b.toNat) ∧ CB σ (24 + b.toNat) (aS α b.toNat) (aN α b.toNat) (aH α b.toNat) := by
  have hb := live_b (α := α) (i := b.toNat) (by omega)
  exact ⟨W.2.1 _ hb, C.1.2 _ hb⟩
theorem kd_b (s : Int → Int) (n : Int) : 0 ≤ kd s n ∧ kd s n ≤ 3 := by
  unfold kd
  by_cases h : EVN s n
  · rw [pit_pos h]; split
    · omega
    · split <;> omega
  · rw [pit_neg h]; omega
theorem sp_kind2 {o : Nat} (ho : shp o = (0, 0, 0)) {s : Int → Int} {n : Int} {h : Nat} (B : BOK s n h) {σ : ASt} (C : CB σ o s n h) {Q : Int → ASt → Prop} (hq : Q (kd s n) σ) : EvI K_X0_kind [.ref o] σ Q := by
  unfold kd at hq
  refine sp_kind ho B C (fun q => ?_) (fun q => ?_)
  · rw [pit_neg q] at hq; exact hq
  · rw [pit_pos q] at hq; exact hq
/-- one reel's place in the class, after it was filled -/
theorem CAll.fill {σ τ : ASt} {α : AB} (C : CAll σ α) {r b : Int} (r0 : 0 ≤ r) (r6 : r < 6) {d : Int → Int} {L : List (Int × (Int → Int))} (H : Ag (fun c => c ≠ 6 ∧ c ≠ 42 + r.toNat ∧ c ≠ 42 + r.toNat + 12 ∧ DP c) σ τ) (h1 : CR τ r.toNat b d) (h2 : CL τ L) : CAll τ (sR α r.toNat b d L) := by
  obtain ⟨c1, c2, c3, c4, c5, c6, c7⟩ := C
  refine ⟨⟨fun i hi => (H.I (by refine ⟨?_, ?_, ?_, ?_, ?_, ?_⟩ <;> omega) 0).trans (c1.1 i hi), fun i hi => ?_⟩, fun q hq => ?_, h2, c4.ag H (by refine ⟨?_, ?_, ?_, ?_, ?_, ?_⟩ <;> omega) (by refine ⟨?_, ?_, ?_, ?_, ?_, ?_⟩ <;> omega), c5.ag H (fun b x y => by refine ⟨?_, ?_, ?_, ?_, ?_, ?_⟩ <;> omega), (H.I (by refine ⟨?_, ?_, ?_, ?_, ?_, ?_⟩ <;> omega) 8).trans c6, c7.ag H (by refine ⟨?_, ?_, ?_, ?_, ?_, ?_⟩ <;> omega)⟩
  · have := hi.lt
    exact (c1.2 i hi).ag H (by refine ⟨?_, ?_, ?_, ?_, ?_, ?_⟩ <;> omega) (by refine ⟨?_, ?_, ?_, ?_, ?_, ?_⟩ <;> omega) (by refine ⟨?_, ?_, ?_, ?_, ?_, ?_⟩ <;> omega)
  · by_cases e : q = r.toNat
    · subst e
      show CR τ r.toNat (up1 (aB α) r.toNat b r.toNat) (up1 (aD α) r.toNat d r.toNat)
      rw [up1_self, up1_self]; exact h1
    · show CR τ q (up1 (aB α) r.toNat b q) (up1 (aD α) r.toNat d q)
      rw [up1_ne _ _ e, up1_ne _ _ e]
      have := hq.lt
      exact (c2 q hq).ag H (by refine ⟨?_, ?_, ?_, ?_, ?_, ?_⟩ <;> omega) (by refine ⟨?_, ?_, ?_, ?_, ?_, ?_⟩ <;> omega)
