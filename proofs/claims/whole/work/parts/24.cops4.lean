/-! the class's calls, fourth batch: counts, images, bases -/
theorem sp_countReels {σ : ASt} {α : AB} (W : WF α) (C : CAll σ α) {Q : Int → ASt → Prop} (hq : Q (cR α) σ) : EvI K_X7_countReels [.ref 0] σ Q := by
  have lp : ∀ (m : Nat) (k : Int), 0 ≤ k → k + m = 6 → Wx K_X7_countReels (QI Q) 4 [(0, .ref 0), (1, .int (iI (ct (fun r => aB α r.toNat + 1) k.toNat))), (2, .int (iI k))] [] σ := by
    intro m
    induction m with
    | zero =>
      intro k k0 hk
      have := ct_b (fun r => aB α r.toNat + 1) k.toNat
      refine bX7_countReels_4 (by omega) (by omega) ⟨fun _ => ?_, fun q => by omega⟩
      rw [show k.toNat = 6 by omega]; exact hq
    | succ m ih =>
      intro k k0 hk
      have := ct_b (fun r => aB α r.toNat + 1) k.toNat
      have nx := ih (k + 1) (by omega) (by omega)
      rw [ct_i k0] at nx
      refine bX7_countReels_4 (by omega) (by omega) ⟨fun q => by omega, fun _ => sp_reelAt (by omega) (fun _ _ => ?_) (fun q => by omega)⟩
      refine reel_split W C k0 (by omega) (fun hb => ?_) (fun hb b0 b2 => ?_)
      · have e : rB α k = aB α k.toNat := rfl
        rw [if_pos (by omega), Int.add_zero] at nx; exact nx
      · have e : rB α k = aB α k.toNat := rfl
        rw [if_neg (by omega)] at nx; exact nx
  exact eX7_countReels (lp 6 0 (by omega) (by omega))
theorem sp_countRows {σ : ASt} {α : AB} (W : WF α) (C : CAll σ α) {Q : Int → ASt → Prop} (hq : Q (cW α) σ) : EvI K_X7_countRows [.ref 0] σ Q := by
  have lp : ∀ (m : Nat) (k : Int), 0 ≤ k → k + m = 3 → Wx K_X7_countRows (QI Q) 4 [(0, .ref 0), (1, .int (iI (ct (fun r => aZ α r.toNat + 1) k.toNat))), (2, .int (iI k))] [] σ := by
    intro m
    induction m with
    | zero =>
      intro k k0 hk
      have := ct_b (fun r => aZ α r.toNat + 1) k.toNat
      refine bX7_countRows_4 (by omega) (by omega) ⟨fun _ => ?_, fun q => by omega⟩
      rw [show k.toNat = 3 by omega]; exact hq
    | succ m ih =>
      intro k k0 hk
      have := ct_b (fun r => aZ α r.toNat + 1) k.toNat
      have nx := ih (k + 1) (by omega) (by omega)
      rw [ct_i k0] at nx
      refine bX7_countRows_4 (by omega) (by omega) ⟨fun q => by omega, fun _ => sp_rowAt (by omega) (fun _ _ => ?_) (fun q => by omega)⟩
      obtain ⟨CC, hz, hi64⟩ := row_facts W C k0 (by omega)
      refine sp_isMissing (sh_w (by omega)) CC hz (fun z => ?_) (fun z => ?_)
      · rw [if_pos (by omega), Int.add_zero] at nx; exact nx
      · rw [if_neg (by omega)] at nx; exact nx
  exact eX7_countRows (lp 3 0 (by omega) (by omega))
theorem C_count {σ : ASt} {α : AB} (W : WF α) (C : CAll σ α) {w : Int} (hw : i32 w) {Q : Int → ASt → Prop} (hq : Q (oCount α w) σ) : EvI K_X7_count [.ref 0, .int (iI w)] σ Q := by
  unfold oCount at hq
  have h12 := C.2.2.1.2.1
  have wt := W.2.2.2.2.1
  refine eX7_count hw ⟨fun q => ?_, fun q => ?_, fun q => ?_, fun q => ?_, fun q => ?_⟩
  · rw [pit_pos q] at hq; exact sp_countReels W C hq
  · rw [pit_neg (by omega), pit_pos q] at hq
    rw [C.2.2.1.1]
    exact ⟨by omega, hq⟩
  · rw [pit_neg (by omega), pit_neg (by omega), pit_pos q] at hq
    rw [C.2.2.2.1.1]
    exact ⟨by omega, hq⟩
  · rw [pit_neg (by omega), pit_neg (by omega), pit_neg (by omega), pit_pos q] at hq
    exact sp_countRows W C hq
  · rw [pit_neg (by omega), pit_neg (by omega), pit_neg (by omega), pit_neg (by omega)] at hq
    exact hq
/-! laying bases and reels over others -/
abbrev OV (tb tr : Nat) (c : Nat) : Prop := ¬ (tb ≤ c ∧ c < tb + 3) ∧ ¬ (tb + 6 ≤ c ∧ c < tb + 9) ∧ ¬ (tb + 12 ≤ c ∧ c < tb + 15) ∧ ¬ (tr ≤ c ∧ c < tr + 6) ∧ ¬ (tr + 12 ≤ c ∧ c < tr + 18)
theorem sp_carryState {a0 a1 a2 a3 fb fr tb tr : Nat} (ha0 : shp a0 = (4, 3, 3)) (ha1 : shp a1 = (4, 4, 6)) (ha2 : shp a2 = (4, 3, 3)) (ha3 : shp a3 = (4, 4, 6)) (f0 : ∀ i, i < 3 → fin a0 i = 24 + fb + i) (f1 : ∀ r, r < 6 → fin a1 r = 42 + fr + r) (f2 : ∀ i, i < 3 → fin a2 i = 24 + tb + i) (f3 : ∀ r, r < 6 → fin a3 r = 42 + tr + r) (hb : (fb = 0 ∧ fr = 0 ∧ tb = 3 ∧ tr = 6) ∨ (fb = 3 ∧ fr = 6 ∧ tb = 0 ∧ tr = 0)) {S : Nat → Int → Int} {N : Nat → Int} {H : Nat → Nat} {B : Nat → Int} {D : Nat → Int → Int} {σ : ASt} (hB : ∀ i, i < 3 → BOK (S i) (N i) (H i) ∧ CB σ (24 + fb + i) (S i) (N i) (H i)) (hR : ∀ r, r < 6 → -1 ≤ B r ∧ B r ≤ 2 ∧ CR σ (fr + r) (B r) (D r)) {Q : ASt → Prop} (hq : ∀ τ, Ag (OV (24 + tb) (42 + tr)) σ τ → (∀ i, i < 3 → CB τ (24 + tb + i) (S i) (N i) (H i)) → (∀ i, i < 3 → gI τ (24 + tb + i) 0 = gI σ (24 + tb + i) 0) → (∀ r, r < 6 → CR τ (tr + r) (B r) (D r)) → Q τ) : EvV K_X7_carryState [.ref a0, .ref a1, .ref a2, .ref a3] σ Q := by
  have lp2 : ∀ (m : Nat) (k : Nat) (τ : ASt), k + m = 6 → Ag (OV (24 + tb) (42 + tr)) σ τ → (∀ i, i < 3 → CB τ (24 + tb + i) (S i) (N i) (H i)) → (∀ i, i < 3 → gI τ (24 + tb + i) 0 = gI σ (24 + tb + i) 0) → (∀ r, r < k → CR τ (tr + r) (B r) (D r)) → Wx K_X7_carryState (QV Q) 51 [(1, .ref a1), (3, .ref a3), (4, .int (iI (k : Int)))] [] τ := by
    intro m
    induction m with
    | zero =>
      intro k τ hk A1 g1 g2 g3
      exact bX7_carryState_51 ha1 ha3 (by omega) ⟨fun _ => hq τ A1 g1 g2 (fun r hr => g3 r (by omega)), fun q => by omega⟩
    | succ m ih =>
      intro k τ hk A1 g1 g2 g3
      have hr := hR k (by omega)
      refine bX7_carryState_51 ha1 ha3 (by omega) ⟨fun q => by omega, fun _ => ⟨fun q => by omega, fun _ => ⟨⟨by omega, by omega⟩, ?_⟩⟩⟩
      rw [Int.toNat_natCast, f1 k (by omega), f3 k (by omega)]
      have cr : CR τ (fr + k) (B k) (D k) := hr.2.2.ag A1 (by refine ⟨?_, ?_, ?_, ?_, ?_⟩ <;> omega) (by refine ⟨?_, ?_, ?_, ?_, ?_⟩ <;> omega)
      have e0 : 42 + (fr + k) = 42 + fr + k := by omega
      have e1 : 42 + (tr + k) = 42 + tr + k := by omega
      have go : ∀ (x : Option Nat) (d : Int → Int), CD τ (42 + fr + k + 12) d → (∀ υ, gP υ (42 + tr + k) 0 = x → CD υ (42 + tr + k + 12) d → CR υ (tr + k) (B k) (D k)) → EvV K_X7_copyDigits [.ref (42 + fr + k + 12), .ref (42 + tr + k + 12)] (sP τ (42 + tr + k) 0 x) (fun s6 => Wx K_X7_carryState (QV Q) 51 [(1, .ref a1), (3, .ref a3), (4, .int (iI ((k : Int) + 1)))] [] s6) := fun x d hd hx => by
        have A2 : Ag (fun c => c ≠ 42 + tr + k) τ (sP τ (42 + tr + k) 0 x) := ag_sP (fun _ h => h)
        have s1 : shp (42 + fr + k + 12) = (1, 0, 43) := by rw [← e0]; exact sh_d (by omega)
        have s2 : shp (42 + tr + k + 12) = (1, 0, 43) := by rw [← e1]; exact sh_d (by omega)
        refine sp_copyDigits s1 s2 (d := d) ?_ (fun υ A3 D3 => ?_)
        · exact hd.ag A2 (by omega)
        · have A4 : Ag (fun c => c ≠ 42 + tr + k ∧ c ≠ 42 + tr + k + 12) τ υ := (A2.mono (fun c h => h.1)).trans (A3.mono (fun c h => h.2))
          refine ih (k + 1) υ (by omega) (A1.trans (A4.mono (fun c h => by constructor <;> omega))) (fun i hi => (g1 i hi).ag A4 (by constructor <;> omega) (by constructor <;> omega) (by constructor <;> omega)) (fun i hi => (A4.I (by constructor <;> omega) 0).trans (g2 i hi)) (fun r hrk => ?_)
          by_cases e : r = k
          · subst e
            refine hx υ ?_ D3
            rw [A3.P (by omega), gP_sP, if_pos ⟨rfl, rfl⟩]
          · exact (g3 r (by omega)).ag A4 (by constructor <;> omega) (by constructor <;> omega)
      refine ⟨fun q => ?_, fun r4 q => ?_⟩ <;> rw [← e0] at q
      · refine go none (gI τ (42 + fr + k + 12)) (fun _ _ _ => rfl) (fun υ h1 h2 => ?_)
        have : B k = -1 := by
          rcases Int.lt_or_le (B k) 0 with z | z
          · omega
          · rw [(cr.2 z).1] at q; cases q
        exact ⟨fun _ => by rw [e1]; exact h1, fun z => by omega⟩
      · rcases Int.lt_or_le (B k) 0 with z | z
        · rw [cr.1 (by omega)] at q; cases q
        · have e4 := (cr.2 z).1
          rw [e4] at q
          cases q
          refine ⟨sh_b (by omega), go _ (D k) (by have := (cr.2 z).2; rw [e0] at this; exact this) (fun υ h1 h2 => ⟨fun z => by omega, fun _ => ?_⟩)⟩
          rw [e1]; exact ⟨h1, h2⟩
  have lp1 : ∀ (m : Nat) (k : Nat) (τ : ASt), k + m = 3 → Ag (OV (24 + tb) (42 + tr)) σ τ → (∀ i, i < k → CB τ (24 + tb + i) (S i) (N i) (H i)) → (∀ i, i < 3 → gI τ (24 + tb + i) 0 = gI σ (24 + tb + i) 0) → Wx K_X7_carryState (QV Q) 3 [(0, .ref a0), (1, .ref a1), (2, .ref a2), (3, .ref a3), (4, .int (iI (k : Int)))] [] τ := by
    intro m
    induction m with
    | zero =>
      intro k τ hk A1 g1 g2
      exact bX7_carryState_3 ha0 ha1 ha2 ha3 (by omega) ⟨fun _ => lp2 6 0 τ (by omega) A1 (fun i hi => g1 i (by omega)) g2 (fun r hr => by omega), fun q => by omega⟩
    | succ m ih =>
      intro k τ hk A1 g1 g2
      have hk2 := hB k (by omega)
      refine bX7_carryState_3 ha0 ha1 ha2 ha3 (by omega) ⟨fun q => by omega, fun _ => ⟨fun q => by omega, fun _ => ⟨⟨by omega, by omega⟩, ?_⟩⟩⟩
      rw [Int.toNat_natCast, f0 k (by omega), f2 k (by omega)]
      have cb : CB τ (24 + fb + k) (S k) (N k) (H k) := hk2.2.ag A1 (by refine ⟨?_, ?_, ?_, ?_, ?_⟩ <;> omega) (by refine ⟨?_, ?_, ?_, ?_, ?_⟩ <;> omega) (by refine ⟨?_, ?_, ?_, ?_, ?_⟩ <;> omega)
      have s1 : shp (24 + fb + k) = (0, 0, 0) := by rw [show 24 + fb + k = 24 + (fb + k) by omega]; exact sh_b (by omega)
      have s2 : shp (24 + tb + k) = (0, 0, 0) := by rw [show 24 + tb + k = 24 + (tb + k) by omega]; exact sh_b (by omega)
      refine sp_becomeLike s2 s1 (by omega) hk2.1 cb (fun υ A2 C2 e2 => ?_)
      have A2' : Ag (fun b => b ≠ 24 + tb + k ∧ b ≠ 24 + tb + k + 6 ∧ b ≠ 24 + tb + k + 12) τ υ := A2
      refine ih (k + 1) υ (by omega) (A1.trans (A2'.mono (fun c h => by refine ⟨?_, ?_, ?_⟩ <;> omega))) (fun i hi => ?_) (fun i hi => ?_)
      · by_cases e : i = k
        · rw [e]; exact C2
        · exact (g1 i (by omega)).ag A2' (by refine ⟨?_, ?_, ?_⟩ <;> omega) (by refine ⟨?_, ?_, ?_⟩ <;> omega) (by refine ⟨?_, ?_, ?_⟩ <;> omega)
      · by_cases e : i = k
        · rw [e]; exact e2.trans (g2 k (by omega))
        · exact (A2'.I (by refine ⟨?_, ?_, ?_⟩ <;> omega) 0).trans (g2 i hi)
  exact eX7_carryState ha0 ha1 ha2 ha3 (lp1 3 0 σ (by omega) Ag.rf (fun i hi => by omega) (fun i hi => rfl))
theorem WF.img {α : AB} (W : WF α) : WF (sImg α) := by
  obtain ⟨w1, w2, w3, w4, w5, w6⟩ := W
  refine ⟨Or.inr rfl, fun i hi => ?_, fun r hr => ?_, fun x hx => ?_, w5, w6⟩
  · have := hi.lt
    show BOK (if i < 3 then aS α i else aS α (i - 3)) (if i < 3 then aN α i else aN α (i - 3)) (if i < 3 then aH α i else aH α (i - 3))
    by_cases e : i < 3
    · rw [if_pos e, if_pos e, if_pos e]; exact w2 i (Or.inl e)
    · rw [if_neg e, if_neg e, if_neg e]; exact w2 (i - 3) (Or.inl (by omega))
  · have := hr.lt
    show -1 ≤ hi 6 (aB α) r ∧ hi 6 (aB α) r ≤ 2 ∧ (0 ≤ hi 6 (aB α) r → DOK (hi 6 (aD α) r) (hi 3 (aH α) (bx r (hi 6 (aB α) r))))
    by_cases e : r < 6
    · have g := w3 r (Or.inl e)
      have e1 : hi 6 (aB α) r = aB α r := if_pos e
      have e2 : hi 6 (aD α) r = aD α r := if_pos e
      rw [e1, e2]
      refine ⟨g.1, g.2.1, fun z => ?_⟩
      have g2 := g.2.2 z
      rw [bx_r e] at g2 ⊢
      have e3 : hi 3 (aH α) (aB α r).toNat = aH α (aB α r).toNat := if_pos (by omega)
      rw [e3]; exact g2
    · have g := w3 (r - 6) (Or.inl (by omega))
      have e1 : hi 6 (aB α) r = aB α (r - 6) := if_neg e
      have e2 : hi 6 (aD α) r = aD α (r - 6) := if_neg e
      rw [e1, e2]
      refine ⟨g.1, g.2.1, fun z => ?_⟩
      have g2 := g.2.2 z
      rw [bx_r (by omega)] at g2
      have e4 : bx r (aB α (r - 6)) = 3 + (aB α (r - 6)).toNat := by unfold bx; rw [if_neg e]
      have e3 : hi 3 (aH α) (3 + (aB α (r - 6)).toNat) = aH α (aB α (r - 6)).toNat := by unfold hi; rw [if_neg (by omega), Nat.add_sub_cancel_left]
      rw [e4, e3]; exact g2
  · have g := w4 x hx
    have e1 : hi 6 (aB α) x.1.toNat = aB α x.1.toNat := if_pos (by omega)
    have g0 := w3 x.1.toNat (Or.inl (by omega))
    show 0 ≤ x.1 ∧ x.1 < 6 ∧ 0 ≤ hi 6 (aB α) x.1.toNat ∧ DOK x.2 (hi 3 (aH α) (bx x.1.toNat (hi 6 (aB α) x.1.toNat)))
    rw [e1]
    have g2 := g.2.2.2
    rw [bx_r (by omega)] at g2 ⊢
    have e3 : hi 3 (aH α) (aB α x.1.toNat).toNat = aH α (aB α x.1.toNat).toNat := if_pos (by omega)
    rw [e3]; exact ⟨g.1, g.2.1, g.2.2.1, g2⟩
theorem WF.und {α : AB} (W : WF α) (K : aK α = 1) : WF (sUnd α) := by
  obtain ⟨w1, w2, w3, w4, w5, w6⟩ := W
  refine ⟨w1, fun i hi => ?_, fun r hr => ?_, fun x hx => (by cases hx), w5, w6⟩
  · have := hi.lt
    show BOK (if i < 3 then aS α (3 + i) else aS α i) (if i < 3 then aN α (3 + i) else aN α i) (if i < 3 then aH α (3 + i) else aH α i)
    by_cases e : i < 3
    · rw [if_pos e, if_pos e, if_pos e]; exact w2 (3 + i) (Or.inr ⟨by omega, K⟩)
    · rw [if_neg e, if_neg e, if_neg e]; exact w2 i (Or.inr ⟨by omega, K⟩)
  · have := hr.lt
    show -1 ≤ lo 6 (aB α) r ∧ lo 6 (aB α) r ≤ 2 ∧ (0 ≤ lo 6 (aB α) r → DOK (lo 6 (aD α) r) (lo 3 (aH α) (bx r (lo 6 (aB α) r))))
    by_cases e : r < 6
    · have g := w3 (6 + r) (Or.inr ⟨by omega, K⟩)
      have e1 : lo 6 (aB α) r = aB α (6 + r) := if_pos e
      have e2 : lo 6 (aD α) r = aD α (6 + r) := if_pos e
      rw [e1, e2]
      refine ⟨g.1, g.2.1, fun z => ?_⟩
      have g2 := g.2.2 z
      have e4 : bx (6 + r) (aB α (6 + r)) = 3 + (aB α (6 + r)).toNat := by unfold bx; rw [if_neg (by omega)]
      rw [bx_r e]
      rw [e4] at g2
      have e3 : lo 3 (aH α) (aB α (6 + r)).toNat = aH α (3 + (aB α (6 + r)).toNat) := if_pos (by omega)
      rw [e3]; exact g2
    · have g := w3 r (Or.inr ⟨by omega, K⟩)
      have e1 : lo 6 (aB α) r = aB α r := if_neg e
      have e2 : lo 6 (aD α) r = aD α r := if_neg e
      rw [e1, e2]
      refine ⟨g.1, g.2.1, fun z => ?_⟩
      have g2 := g.2.2 z
      have e4 : bx r (aB α r) = 3 + (aB α r).toNat := by unfold bx; rw [if_neg e]
      rw [e4] at g2 ⊢
      have e3 : lo 3 (aH α) (3 + (aB α r).toNat) = aH α (3 + (aB α r).toNat) := if_neg (by omega)
      rw [e3]; exact g2
theorem fin_b {i : Nat} (h : i < 3) : fin 1 i = 24 + 0 + i ∧ fin 2 i = 24 + 3 + i := (by decide +kernel : ∀ i, i < 3 → fin 1 i = 24 + 0 + i ∧ fin 2 i = 24 + 3 + i) i h
theorem fin_r {i : Nat} (h : i < 6) : fin 3 i = 42 + 0 + i ∧ fin 4 i = 42 + 6 + i := (by decide +kernel : ∀ i, i < 6 → fin 3 i = 42 + 0 + i ∧ fin 4 i = 42 + 6 + i) i h
theorem C_image {σ : ASt} {α : AB} (W : WF α) (C : CAll σ α) {Q : Int → ASt → Prop} (hq : ∀ τ, CO σ τ → CAll τ (oImage α).2 → Q (oImage α).1 τ) : EvI K_X7_image [.ref 0] σ Q := by
  obtain ⟨c1, c2, c3, c4, c5, c6, c7⟩ := C
  refine eX7_image (sp_carryState (fb := 0) (fr := 0) (tb := 3) (tr := 6) rfl rfl rfl rfl (fun i h => (fin_b h).1) (fun i h => (fin_r h).1) (fun i h => (fin_b h).2) (fun i h => (fin_r h).2) (Or.inl ⟨rfl, rfl, rfl, rfl⟩) (S := aS α) (N := aN α) (H := aH α) (B := aB α) (D := aD α) (fun i hi => ⟨W.2.1 i (Or.inl hi), c1.2 i (Or.inl hi)⟩) (fun r hr => ⟨(W.2.2.1 r (Or.inl hr)).1, (W.2.2.1 r (Or.inl hr)).2.1, by rw [Nat.zero_add]; exact c2 r (Or.inl hr)⟩) (fun τ A1 g1 g2 g3 => ?_))
  have A2 : Ag (fun c => OV (24 + 3) (42 + 6) c ∧ c ≠ 0) σ (sI τ 0 8 1) := (A1.mono (fun c h => h.1)).trans (ag_sI (fun c h => h.2))
  have A3 : Ag (fun c => c ≠ 0) τ (sI τ 0 8 1) := ag_sI (fun c h => h)
  have CC : CAll (sI τ 0 8 1) (sImg α) := by
    refine ⟨⟨fun i hi => (A2.I (by refine ⟨⟨?_, ?_, ?_, ?_, ?_⟩, ?_⟩ <;> omega) 0).trans (c1.1 i hi), fun i hi => ?_⟩, fun r hr => ?_, c3.ag A2 (by refine ⟨⟨?_, ?_, ?_, ?_, ?_⟩, ?_⟩ <;> omega) (by refine ⟨⟨?_, ?_, ?_, ?_, ?_⟩, ?_⟩ <;> omega) (by refine ⟨⟨?_, ?_, ?_, ?_, ?_⟩, ?_⟩ <;> omega), c4.ag A2 (by refine ⟨⟨?_, ?_, ?_, ?_, ?_⟩, ?_⟩ <;> omega) (by refine ⟨⟨?_, ?_, ?_, ?_, ?_⟩, ?_⟩ <;> omega), c5.ag A2 (fun b x y => by refine ⟨⟨?_, ?_, ?_, ?_, ?_⟩, ?_⟩ <;> omega), gI_self _ _ _ _, c7.ag A2 (by refine ⟨⟨?_, ?_, ?_, ?_, ?_⟩, ?_⟩ <;> omega)⟩
    · have := hi.lt
      show CB _ (24 + i) (if i < 3 then aS α i else aS α (i - 3)) (if i < 3 then aN α i else aN α (i - 3)) (if i < 3 then aH α i else aH α (i - 3))
      by_cases e : i < 3
      · rw [if_pos e, if_pos e, if_pos e]
        exact (c1.2 i (Or.inl e)).ag A2 (by refine ⟨⟨?_, ?_, ?_, ?_, ?_⟩, ?_⟩ <;> omega) (by refine ⟨⟨?_, ?_, ?_, ?_, ?_⟩, ?_⟩ <;> omega) (by refine ⟨⟨?_, ?_, ?_, ?_, ?_⟩, ?_⟩ <;> omega)
      · rw [if_neg e, if_neg e, if_neg e]
        have := g1 (i - 3) (by omega)
        rw [show 24 + 3 + (i - 3) = 24 + i by omega] at this
        exact this.ag A3 (by omega) (by omega) (by omega)
    · have := hr.lt
      show CR _ r (hi 6 (aB α) r) (hi 6 (aD α) r)
      by_cases e : r < 6
      · have e1 : hi 6 (aB α) r = aB α r := if_pos e
        have e2 : hi 6 (aD α) r = aD α r := if_pos e
        rw [e1, e2]
        exact (c2 r (Or.inl e)).ag A2 (by refine ⟨⟨?_, ?_, ?_, ?_, ?_⟩, ?_⟩ <;> omega) (by refine ⟨⟨?_, ?_, ?_, ?_, ?_⟩, ?_⟩ <;> omega)
      · have e1 : hi 6 (aB α) r = aB α (r - 6) := if_neg e
        have e2 : hi 6 (aD α) r = aD α (r - 6) := if_neg e
        rw [e1, e2]
        have := g3 (r - 6) (by omega)
        rw [show 6 + (r - 6) = r by omega] at this
        exact this.ag A3 (by omega) (by omega)
  refine sp_countReels W.img CC ?_
  exact hq _ (A2.mono (fun c h => by refine ⟨⟨?_, ?_, ?_, ?_, ?_⟩, ?_⟩ <;> omega)) CC
theorem C_undo {σ : ASt} {α : AB} (W : WF α) (C : CAll σ α) {Q : Int → ASt → Prop} (hq : ∀ τ, CO σ τ → CAll τ (oUndo α).2 → Q (oUndo α).1 τ) : EvI K_X7_undo [.ref 0] σ Q := by
  have C0 := C
  obtain ⟨c1, c2, c3, c4, c5, c6, c7⟩ := C
  have w1 := W.1
  unfold oUndo at hq
  refine eX7_undo ⟨by rw [c6]; omega, fun q => ?_, fun q => by rw [c6] at q; rw [pit_pos q] at hq; exact hq σ Ag.rf C0⟩
  rw [c6] at q
  have K : aK α = 1 := by omega
  rw [pit_neg q] at hq
  refine sp_carryState (fb := 3) (fr := 6) (tb := 0) (tr := 0) rfl rfl rfl rfl (fun i h => (fin_b h).2) (fun i h => (fin_r h).2) (fun i h => (fin_b h).1) (fun i h => (fin_r h).1) (Or.inr ⟨rfl, rfl, rfl, rfl⟩) (S := lo 3 (aS α)) (N := lo 3 (aN α)) (H := lo 3 (aH α)) (B := lo 6 (aB α)) (D := lo 6 (aD α)) (fun i hi => ?_) (fun r hr => ?_) (fun τ A1 g1 g2 g3 => ?_)
  · have e1 : lo 3 (aS α) i = aS α (3 + i) := if_pos hi
    have e2 : lo 3 (aN α) i = aN α (3 + i) := if_pos hi
    have e3 : lo 3 (aH α) i = aH α (3 + i) := if_pos hi
    rw [e1, e2, e3, show 24 + 3 + i = 24 + (3 + i) by omega]
    exact ⟨W.2.1 _ (Or.inr ⟨by omega, K⟩), c1.2 _ (Or.inr ⟨by omega, K⟩)⟩
  · have e1 : lo 6 (aB α) r = aB α (6 + r) := if_pos hr
    have e2 : lo 6 (aD α) r = aD α (6 + r) := if_pos hr
    rw [e1, e2]
    have := W.2.2.1 (6 + r) (Or.inr ⟨by omega, K⟩)
    exact ⟨this.1, this.2.1, c2 _ (Or.inr ⟨by omega, K⟩)⟩
  have A2 : Ag (fun c => OV (24 + 0) (42 + 0) c ∧ c ≠ 11) σ (sI τ 11 2 0) := (A1.mono (fun c h => h.1)).trans (ag_sI (fun c h => h.2))
  have A3 : Ag (fun c => c ≠ 11) τ (sI τ 11 2 0) := ag_sI (fun c h => h)
  have CC : CAll (sI τ 11 2 0) (sUnd α) := by
    refine ⟨⟨fun i hi => ?_, fun i hi => ?_⟩, fun r hr => ?_, ⟨gI_self _ _ _ _, Nat.zero_le 12, fun j x hx => by cases hx⟩, c4.ag A2 (by refine ⟨⟨?_, ?_, ?_, ?_, ?_⟩, ?_⟩ <;> omega) (by refine ⟨⟨?_, ?_, ?_, ?_, ?_⟩, ?_⟩ <;> omega), c5.ag A2 (fun b x y => by refine ⟨⟨?_, ?_, ?_, ?_, ?_⟩, ?_⟩ <;> omega), (A2.I (by refine ⟨⟨?_, ?_, ?_, ?_, ?_⟩, ?_⟩ <;> omega) 8).trans c6, c7.ag A2 (by refine ⟨⟨?_, ?_, ?_, ?_, ?_⟩, ?_⟩ <;> omega)⟩
    · have := g2 i hi
      rw [show 24 + 0 + i = 24 + i by omega] at this
      exact (A3.I (by omega) 0).trans (this.trans (c1.1 i hi))
    · have := hi.lt
      by_cases e : i < 3
      · have := g1 i e
        rw [show 24 + 0 + i = 24 + i by omega] at this
        exact this.ag A3 (by omega) (by omega) (by omega)
      · show CB _ (24 + i) (if i < 3 then aS α (3 + i) else aS α i) (if i < 3 then aN α (3 + i) else aN α i) (if i < 3 then aH α (3 + i) else aH α i)
        rw [if_neg e, if_neg e, if_neg e]
        exact (c1.2 i (Or.inr ⟨by omega, K⟩)).ag A2 (by refine ⟨⟨?_, ?_, ?_, ?_, ?_⟩, ?_⟩ <;> omega) (by refine ⟨⟨?_, ?_, ?_, ?_, ?_⟩, ?_⟩ <;> omega) (by refine ⟨⟨?_, ?_, ?_, ?_, ?_⟩, ?_⟩ <;> omega)
    · have := hr.lt
      by_cases e : r < 6
      · have := g3 r e
        rw [Nat.zero_add] at this
        exact this.ag A3 (by omega) (by omega)
      · show CR _ r (lo 6 (aB α) r) (lo 6 (aD α) r)
        have e1 : lo 6 (aB α) r = aB α r := if_neg e
        have e2 : lo 6 (aD α) r = aD α r := if_neg e
        rw [e1, e2]
        exact (c2 r (Or.inr ⟨by omega, K⟩)).ag A2 (by refine ⟨⟨?_, ?_, ?_, ?_, ?_⟩, ?_⟩ <;> omega) (by refine ⟨⟨?_, ?_, ?_, ?_, ?_⟩, ?_⟩ <;> omega)
  refine sp_countReels (W.und K) CC ?_
  exact hq _ (A2.mono (fun c h => by refine ⟨⟨?_, ?_, ?_, ?_, ?_⟩, ?_⟩ <;> omega)) CC
/-! telling a base -/
theorem BOK.uniq {s : Int → Int} {n n' : Int} {h h' : Nat} (B : BOK s n h) (B' : BOK s n' h') : h = h' := by
  rcases Nat.lt_trichotomy h h' with q | q | q
  · have := B'.2.2.2.2.2.1 h q
    have := B.2.2.2.2.2.2
    omega
  · exact q
  · have := B.2.2.2.2.2.1 h' q
    have := B'.2.2.2.2.2.2
    omega
noncomputable def hOf (s : Int → Int) (n : Int) : Nat := @dite _ (∃ h, BOK s n h) (Classical.propDecidable _) (fun q => Classical.choose q) (fun _ => 0)
theorem hOf_eq {s : Int → Int} {n : Int} {h : Nat} (B : BOK s n h) : hOf s n = h := by
  have hq : ∃ h, BOK s n h := ⟨h, B⟩
  unfold hOf
  rw [dif_pos hq]
  exact (Classical.choose_spec hq).uniq B
/-- a base told anew -/
noncomputable def sB (α : AB) (i : Nat) (s : Int → Int) (n : Int) : AB := (up1 (aS α) i s, up1 (aN α) i n, up1 (aH α) i (hOf s n), aB α, aD α, aL α, aTZ α, aT α, aZ α, aI α, aK α)
/-- the reels below r that have the base are emptied -/
noncomputable def clr (α : AB) (i : Int) : Nat → AB
  | 0 => α
  | r + 1 => pit (aB (clr α i r) r = i) (fill (clr α i r) r (-1) (rD (clr α i r) r)) (clr α i r)
noncomputable def oBase (α : AB) (i n s : Int) : Int × AB := pit (okB i ∧ rowP n s) ((hOf (stf n s) n : Int), clr (sB α i.toNat (stf n s) n) i 6) (-2, α)
/-- as WF, but for the reels from r on that have the base i: their digits fit by another -/
def WFh (i : Int) (r : Nat) (α : AB) : Prop :=
  (aK α = 0 ∨ aK α = 1) ∧ (∀ i, live α i 3 → BOK (aS α i) (aN α i) (aH α i)) ∧
  (∀ q, live α q 6 → -1 ≤ aB α q ∧ aB α q ≤ 2 ∧ (q < r → aB α q ≠ i) ∧ (6 ≤ q ∨ aB α q ≠ i → 0 ≤ aB α q → DOK (aD α q) (aH α (bx q (aB α q))))) ∧
  (∀ x ∈ aL α, 0 ≤ x.1 ∧ x.1 < 6 ∧ 0 ≤ aB α x.1.toNat ∧ (aB α x.1.toNat ≠ i → DOK x.2 (aH α (bx x.1.toNat (aB α x.1.toNat))))) ∧
  (0 ≤ aTZ α ∧ aTZ α ≤ 80 ∧ ∀ i : Int, 0 ≤ i → i < aTZ α → 0 ≤ aT α i ∧ aT α i ≤ 127) ∧
  (∀ w, w < 3 → -1 ≤ aZ α w ∧ aZ α w ≤ 60 ∧ ∀ k : Int, 0 ≤ k → k < 60 → i64 (aI α w k))
theorem WF.retell {α : AB} (W : WF α) {i : Int} (i0 : 0 ≤ i) (i2 : i ≤ 2) {s : Int → Int} {n : Int} {h : Nat} (B : BOK s n h) : WFh i 0 (sB α i.toNat s n) := by
  obtain ⟨w1, w2, w3, w4, w5, w6⟩ := W
  refine ⟨w1, fun j hj => ?_, fun q hq => ?_, fun x hx => ?_, w5, w6⟩
  · show BOK (up1 (aS α) i.toNat s j) (up1 (aN α) i.toNat n j) (up1 (aH α) i.toNat (hOf s n) j)
    by_cases e : j = i.toNat
    · rw [e, up1_self, up1_self, up1_self, hOf_eq B]; exact B
    · rw [up1_ne _ _ e, up1_ne _ _ e, up1_ne _ _ e]; exact w2 j hj
  · have g := w3 q hq
    have := hq.lt
    refine ⟨g.1, g.2.1, fun z => by omega, fun z z0 => ?_⟩
    show DOK (aD α q) (up1 (aH α) i.toNat (hOf s n) (bx q (aB α q)))
    have z0' : 0 ≤ aB α q := z0
    have e : bx q (aB α q) ≠ i.toNat := by
      unfold bx
      rcases z with z | z
      · rw [if_neg (by omega)]; omega
      · have z' : aB α q ≠ i := z
        split <;> omega
    rw [up1_ne _ _ e]
    exact g.2.2 z0
  · have g := w4 x hx
    refine ⟨g.1, g.2.1, g.2.2.1, fun z => ?_⟩
    show DOK x.2 (up1 (aH α) i.toNat (hOf s n) (bx x.1.toNat (aB α x.1.toNat)))
    have z' : aB α x.1.toNat ≠ i := z
    have g2 := g.2.2.1
    have e : bx x.1.toNat (aB α x.1.toNat) ≠ i.toNat := by rw [bx_r (by omega)]; omega
    rw [up1_ne _ _ e]
    exact g.2.2.2
theorem WFh.step {α : AB} {i : Int} (i0 : 0 ≤ i) {r : Nat} (r6 : r < 6) (W : WFh i r α) : WFh i (r + 1) (pit (aB α r = i) (fill α r (-1) (rD α r)) α) := by
  obtain ⟨w1, w2, w3, w4, w5, w6⟩ := W
  by_cases c : aB α r = i
  · rw [pit_pos c]
    refine ⟨w1, w2, fun q hq => ?_, fun x hx => ?_, w5, w6⟩
    · show -1 ≤ up1 (aB α) (r : Int).toNat (-1) q ∧ up1 (aB α) (r : Int).toNat (-1) q ≤ 2 ∧ (q < r + 1 → up1 (aB α) (r : Int).toNat (-1) q ≠ i) ∧ (6 ≤ q ∨ up1 (aB α) (r : Int).toNat (-1) q ≠ i → 0 ≤ up1 (aB α) (r : Int).toNat (-1) q → DOK (up1 (aD α) (r : Int).toNat (rD α r) q) (aH α (bx q (up1 (aB α) (r : Int).toNat (-1) q))))
      rw [Int.toNat_natCast]
      by_cases e : q = r
      · rw [e, up1_self]; exact ⟨by omega, by omega, fun _ => by omega, fun _ z => by omega⟩
      · rw [up1_ne _ _ e, up1_ne _ _ e]
        have g := w3 q hq
        exact ⟨g.1, g.2.1, fun z => g.2.2.1 (by omega), g.2.2.2⟩
    · have hm := fgt_mem hx
      have g := w4 x hm.1
      have hne : x.1.toNat ≠ r := by have := hm.2; omega
      show 0 ≤ x.1 ∧ x.1 < 6 ∧ 0 ≤ up1 (aB α) (r : Int).toNat (-1) x.1.toNat ∧ (up1 (aB α) (r : Int).toNat (-1) x.1.toNat ≠ i → DOK x.2 (aH α (bx x.1.toNat (up1 (aB α) (r : Int).toNat (-1) x.1.toNat))))
      rw [Int.toNat_natCast, up1_ne _ _ hne]
      exact g
  · rw [pit_neg c]
    refine ⟨w1, w2, fun q hq => ?_, w4, w5, w6⟩
    have g := w3 q hq
    refine ⟨g.1, g.2.1, fun z => ?_, g.2.2.2⟩
    by_cases e : q = r
    · rw [e]; exact c
    · exact g.2.2.1 (by omega)
theorem WFh.clr {α : AB} {i : Int} (i0 : 0 ≤ i) (W : WFh i 0 α) : ∀ r : Nat, r ≤ 6 → WFh i r (clr α i r)
  | 0, _ => W
  | r + 1, h => (WFh.clr i0 W r (by omega)).step i0 (by omega)
theorem WFh.end {α : AB} {i : Int} (W : WFh i 6 α) : WF α := by
  obtain ⟨w1, w2, w3, w4, w5, w6⟩ := W
  refine ⟨w1, w2, fun q hq => ?_, fun x hx => ?_, w5, w6⟩
  · have g := w3 q hq
    refine ⟨g.1, g.2.1, g.2.2.2 ?_⟩
    rcases Nat.lt_or_ge q 6 with z | z
    · exact Or.inr (g.2.2.1 z)
    · exact Or.inl z
  · have g := w4 x hx
    have g2 := w3 x.1.toNat (Or.inl (by omega))
    exact ⟨g.1, g.2.1, g.2.2.1, g.2.2.2 (g2.2.2.1 (by omega))⟩
theorem WF.base {α : AB} (W : WF α) {i n s : Int} (i0 : 0 ≤ i) (i2 : i ≤ 2) {h : Nat} (B : BOK (stf n s) n h) : WF (clr (sB α i.toNat (stf n s) n) i 6) := ((W.retell i0 i2 B).clr i0 6 (by omega)).end
theorem C_base {σ : ASt} {α : AB} (W : WF α) (C : CAll σ α) {i n s : Int} (hi : i32 i) (hn : i32 n) (hs : i32 s) {Q : Int → ASt → Prop} (hq : ∀ τ, CO σ τ → CAll τ (oBase α i n s).2 → Q (oBase α i n s).1 τ) : EvI K_X7_base [.ref 0, .int (iI i), .int (iI n), .int (iI s)] σ Q := by
  unfold oBase at hq
  refine eX7_base (sp_baseAt hi (fun i0 i3 => ?_) (fun q => by rw [pit_neg (by omega)] at hq; exact hq σ Ag.rf C))
  refine sp_isRowOfSteps hn hs (fun R => ?_) (fun R => by rw [pit_neg (fun x => R x.2)] at hq; exact hq σ Ag.rf C)
  rw [pit_pos ⟨by omega, R⟩] at hq
  refine sp_tell (sh_b (by omega)) hs R (fun h τ B A1 C1 e1 => ?_)
  have h43 := B.h43
  have W1 := W.retell i0 (by omega) B
  obtain ⟨c1, c2, c3, c4, c5, c6, c7⟩ := C
  have CC : CAll τ (sB α i.toNat (stf n s) n) := by
    refine ⟨⟨fun j hj => ?_, fun j hj => ?_⟩, c2.ag A1 (fun b x y => by refine ⟨?_, ?_, ?_⟩ <;> omega), c3.ag A1 (by refine ⟨?_, ?_, ?_⟩ <;> omega) (by refine ⟨?_, ?_, ?_⟩ <;> omega) (by refine ⟨?_, ?_, ?_⟩ <;> omega), c4.ag A1 (by refine ⟨?_, ?_, ?_⟩ <;> omega) (by refine ⟨?_, ?_, ?_⟩ <;> omega), c5.ag A1 (fun b x y => by refine ⟨?_, ?_, ?_⟩ <;> omega), (A1.I (by refine ⟨?_, ?_, ?_⟩ <;> omega) 8).trans c6, c7.ag A1 (by refine ⟨?_, ?_, ?_⟩ <;> omega)⟩
    · by_cases e : j = i.toNat
      · rw [e]; exact e1.trans (c1.1 _ (by omega))
      · exact (A1.I (by refine ⟨?_, ?_, ?_⟩ <;> omega) 0).trans (c1.1 j hj)
    · have := hj.lt
      show CB τ (24 + j) (up1 (aS α) i.toNat (stf n s) j) (up1 (aN α) i.toNat n j) (up1 (aH α) i.toNat (hOf (stf n s) n) j)
      by_cases e : j = i.toNat
      · rw [e, up1_self, up1_self, up1_self, hOf_eq B]; exact C1
      · rw [up1_ne _ _ e, up1_ne _ _ e, up1_ne _ _ e]
        exact (c1.2 j hj).ag A1 (by refine ⟨?_, ?_, ?_⟩ <;> omega) (by refine ⟨?_, ?_, ?_⟩ <;> omega) (by refine ⟨?_, ?_, ?_⟩ <;> omega)
  have lp : ∀ (m : Nat) (r : Nat) (υ : ASt), r + m = 6 → Ag (fun b => 72 ≤ b ∨ b = 24 + i.toNat) τ υ → CAll υ (clr (sB α i.toNat (stf n s) n) i r) → Wx K_X7_base (QI Q) 33 [(0, .ref 0), (4, .ref (24 + i.toNat)), (5, .int (iI (r : Int)))] [] υ := by
    intro m
    induction m with
    | zero =>
      intro r υ hr A2 C2
      have e4 : gI υ (24 + i.toNat) 4 = h := (A2.I (Or.inr rfl) 4).trans C1.2.1
      rw [hOf_eq B] at hq
      refine bX7_base_33 (sh_b (by omega)) (by omega) ⟨fun _ => ?_, fun q => by omega⟩
      rw [e4]
      have e6 : r = 6 := by omega
      rw [e6] at C2
      exact ⟨by omega, hq υ ((A1.mono (fun c h => by refine ⟨?_, ?_, ?_⟩ <;> omega)).trans (A2.mono (fun c h => Or.inl h))) C2⟩
    | succ m ih =>
      intro r υ hr A2 C2
      have Wr := W1.clr i0 r (by omega)
      have w := Wr.2.2.1 r (live_r (by omega))
      have c := C2.2.1 r (live_r (by omega))
      have step : ¬ aB (clr (sB α i.toNat (stf n s) n) i r) r = i → Wx K_X7_base (QI Q) 33 [(0, .ref 0), (4, .ref (24 + i.toNat)), (5, .int (iI ((r : Int) + 1)))] [] υ := fun z => by
        rw [show (r : Int) + 1 = ((r + 1 : Nat) : Int) by omega]
        refine ih (r + 1) υ (by omega) A2 ?_
        show CAll υ (pit _ _ _)
        rw [pit_neg z]; exact C2
      refine bX7_base_33 (sh_b (by omega)) (by omega) ⟨fun q => by omega, fun _ => sp_reelAt (by omega) (fun _ _ => ?_) (fun q => by omega)⟩
      rw [Int.toNat_natCast]
      refine ⟨fun q => ?_, fun r6 q => ?_⟩
      · refine step (fun z => ?_)
        rw [(c.2 (by omega)).1] at q; cases q
      · rcases Int.lt_or_le (aB (clr (sB α i.toNat (stf n s) n) i r) r) 0 with z | z
        · rw [c.1 (by omega)] at q; cases q
        · rw [(c.2 z).1] at q
          cases q
          refine ⟨sh_b (by omega), fun y => step (by omega), fun y => ?_⟩
          have ey : aB (clr (sB α i.toNat (stf n s) n) i r) r = i := by omega
          refine sp_clearReel (by omega) (by omega) C2.2.2.1 (fun x hx => by have := Wr.2.2.2.1 x hx; omega) (fun ω A3 g3 L3 => ?_)
          rw [Int.toNat_natCast] at A3 g3
          rw [show (r : Int) + 1 = ((r + 1 : Nat) : Int) by omega]
          refine ih (r + 1) ω (by omega) (A2.trans (A3.mono (fun c h => by refine ⟨?_, ?_, ?_, ?_⟩ <;> omega))) ?_
          show CAll ω (pit _ _ _)
          rw [pit_pos ey]
          exact C2.fill (r := (r : Int)) (by omega) (by omega) (A3.mono (fun c h => by rw [Int.toNat_natCast] at h; exact ⟨h.2.1, h.2.2.2⟩)) ⟨fun _ => by rw [Int.toNat_natCast]; exact g3, fun q => by omega⟩ L3
  exact lp 6 0 τ (by omega) Ag.rf CC
