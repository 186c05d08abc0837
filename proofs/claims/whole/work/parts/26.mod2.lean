/-! the reference's reels -/
def RR (σ : ASt) (r b : Int) (s : Int → Int) (n : Int) (h : Nat) (d : Int → Int) : Prop := gI σ 78 r = b ∧ MB σ b s n h ∧ ∀ k : Int, 0 ≤ k → k < h → gI σ 79 (50 * r + k) = d k
theorem RR.fr {P : Nat → Int → Prop} {σ τ : ASt} {r b n : Int} {s d : Int → Int} {h : Nat} (H : Fr P σ τ) (h43 : h ≤ 43) (h0 : ∀ a j, 73 ≤ a → a ≤ 77 → P a j) (h1 : P 78 r) (h2 : ∀ j, 50 * r ≤ j → j < 50 * r + 50 → P 79 j) (C : RR σ r b s n h d) : RR τ r b s n h d :=
  ⟨(H.I h1).trans C.1, C.2.1.fr H h0, fun k x y => (H.I (h2 _ (by omega) (by omega))).trans (C.2.2 k x y)⟩
theorem mreel_facts {σ : ASt} {α : AB} (W : WF α) (C : MAll σ α) {r : Int} (r0 : 0 ≤ r) (r6 : r < 6) (b0 : 0 ≤ rB α r) (b2 : rB α r ≤ 2) : BOK (rS α r) (rN α r) (rH α r) ∧ DOK (rD α r) (rH α r) ∧ RR σ r (rB α r) (rS α r) (rN α r) (rH α r) (rD α r) := by
  have w := (W.2.2.1 r.toNat (live_r (by omega))).2.2 b0
  rw [bx_r (by omega)] at w
  have m := C.2.1 r r0 r6
  exact ⟨W.2.1 _ (live_b (by show (rB α r).toNat < 3; omega)), w, m.1, C.1 _ b0 (by omega), m.2 b0⟩
theorem mbase_facts {σ : ASt} {α : AB} (W : WF α) (C : MAll σ α) {b : Int} (b0 : 0 ≤ b) (b3 : b < 3) : BOK (aS α b.toNat) (aN α b.toNat) (aH α b.toNat) ∧ MB σ b (aS α b.toNat) (aN α b.toNat) (aH α b.toNat) :=
  ⟨W.2.1 _ (live_b (by omega)), C.1 b b0 b3⟩
theorem ct_h {d : Int → Int} {h : Nat} (D : DOK d h) (h43 : h ≤ 43) : ct d 43 = ct d h := ct_split h43 (fun k a _ => D.2 k (Or.inr (by omega)))
theorem hg_h {d : Int → Int} {h : Nat} (D : DOK d h) (h43 : h ≤ 43) : hg d 43 = hg d h := hg_split h43 (fun k a _ => D.2 k (Or.inr (by omega)))
theorem RR.high {r b n : Int} {s d : Int → Int} {h : Nat} {σ : ASt} (R : RR σ r b s n h d) (B : BOK s n h) (r0 : 0 ≤ r) (r6 : r < 6) (b0 : 0 ≤ b) (b2 : b ≤ 2) {Q : Int → ASt → Prop} (hq : Q h σ) : EvI K_X8_high [.ref 72, .int (iI r)] σ Q := sp_mhigh r0 r6 b0 b2 B.h43 R.1 R.2.1.2.1 hq
theorem RR.at {r b n : Int} {s d : Int → Int} {h : Nat} {σ : ASt} (R : RR σ r b s n h d) (B : BOK s n h) (D : ∀ k : Int, 0 ≤ k → k < h → 0 ≤ d k ∧ d k ≤ 99) (r0 : 0 ≤ r) (r6 : r < 6) {k : Int} (k0 : 0 ≤ k) (k1 : k < h) {Q : Int → ASt → Prop} (hq : Q (d k) σ) : EvI K_X8_digitAt [.ref 72, .int (iI r), .int (iI k)] σ Q := by
  have h43 := B.h43
  have := D k k0 k1
  exact sp_digitAt r0 r6 k0 (by omega) (R.2.2 k k0 k1) (by omega) hq
theorem sp_filled {r b n : Int} {s d : Int → Int} {h : Nat} {σ : ASt} (R : RR σ r b s n h d) (B : BOK s n h) (D : ∀ k : Int, 0 ≤ k → k < h → 0 ≤ d k ∧ d k ≤ 99) (r0 : 0 ≤ r) (r6 : r < 6) (b0 : 0 ≤ b) (b2 : b ≤ 2) {Q : Int → ASt → Prop} (hq : Q (ct d h) σ) : EvI K_X8_filled [.ref 72, .int (iI r)] σ Q := by
  have h43 := B.h43
  have lp : ∀ (m : Nat) (k : Int), 0 ≤ k → k + m = h → Wx K_X8_filled (QI Q) 4 [(0, .ref 72), (1, .int (iI r)), (2, .int (iI (ct d k.toNat))), (3, .int (iI k))] [] σ := by
    intro m
    induction m with
    | zero =>
      intro k k0 hk
      have := ct_b d k.toNat
      refine bX8_filled_4 (by omega) (by omega) (R.high B r0 r6 b0 b2 ⟨fun _ => ?_, fun q => by omega⟩)
      rw [show k.toNat = h by omega]; exact hq
    | succ m ih =>
      intro k k0 hk
      have := ct_b d k.toNat
      have nx := ih (k + 1) (by omega) (by omega)
      rw [ct_i k0] at nx
      refine bX8_filled_4 (by omega) (by omega) (R.high B r0 r6 b0 b2 ⟨fun q => by omega, fun _ => R.at B D r0 r6 k0 (by omega) ⟨fun q => ?_, fun q => ?_⟩⟩)
      · rw [if_neg q] at nx; exact nx
      · rw [if_pos q] at nx; exact nx
  exact eX8_filled (lp h 0 (by omega) (by omega))
theorem sp_mhighest {r b n : Int} {s d : Int → Int} {h : Nat} {σ : ASt} (R : RR σ r b s n h d) (B : BOK s n h) (D : ∀ k : Int, 0 ≤ k → k < h → 0 ≤ d k ∧ d k ≤ 99) (r0 : 0 ≤ r) (r6 : r < 6) (b0 : 0 ≤ b) (b2 : b ≤ 2) {Q : Int → ASt → Prop} (hq : Q (hg d h) σ) : EvI K_X8_highest [.ref 72, .int (iI r)] σ Q := by
  have h43 := B.h43
  have lp : ∀ (m : Nat), m ≤ h → hg d h = hg d m → Wx K_X8_highest (QI Q) 8 [(0, .ref 72), (1, .int (iI r)), (2, .int (iI ((m : Int) - 1)))] [] σ := by
    intro m
    induction m with
    | zero =>
      intro _ hm
      refine bX8_highest_8 (by omega) ⟨fun _ => ?_, fun q => by omega⟩
      rw [hm] at hq; exact hq
    | succ m ih =>
      intro hm he
      rw [show ((m + 1 : Nat) : Int) - 1 = (m : Int) by omega]
      have he2 : hg d h = if d m = 0 then hg d m else (m : Int) := he
      refine bX8_highest_8 (by omega) ⟨fun q => by omega, fun _ => R.at B D r0 r6 (by omega) (by omega) ⟨fun q => ?_, fun q => ?_⟩⟩
      · rw [if_neg q] at he2
        rw [he2] at hq; exact hq
      · rw [if_pos q] at he2
        have := ih (by omega) he2
        rw [show (m : Int) + (-1) = (m : Int) - 1 by omega]
        exact this
  exact eX8_highest (R.high B r0 r6 b0 b2 (lp h (Nat.le_refl _) rfl))
theorem sp_isLegal {r b n : Int} {s d : Int → Int} {h : Nat} {σ : ASt} (R : RR σ r b s n h d) (B : BOK s n h) (D : ∀ k : Int, 0 ≤ k → k < h → 0 ≤ d k ∧ d k ≤ 99) (r0 : 0 ≤ r) (r6 : r < 6) (b0 : 0 ≤ b) (b2 : b ≤ 2) {QT QF : ASt → Prop} (hT : LEG s h d → QT σ) (hF : ¬ LEG s h d → QF σ) : EvZ K_X8_isLegal [.ref 72, .int (iI r)] σ QT QF := by
  have h43 := B.h43
  have lp : ∀ (m : Nat) (k : Int), 0 ≤ k → k + m = h → (∀ j : Int, 0 ≤ j → j < k → d j ≤ s j ∧ (d j = s j → 0 < j → d (j - 1) = 0)) → Wx K_X8_isLegal (QZ QT QF) 9 [(0, .ref 72), (1, .int (iI r)), (2, .int (iI b)), (3, .int (iI k))] [] σ := by
    intro m
    induction m with
    | zero =>
      intro k k0 hk hj
      exact bX8_isLegal_9 (by omega) (R.high B r0 r6 b0 b2 ⟨fun _ => hT (fun j a c => hj j a (by omega)), fun q => by omega⟩)
    | succ m ih =>
      intro k k0 hk hj
      have nx : (d k ≤ s k ∧ (d k = s k → 0 < k → d (k - 1) = 0)) → Wx K_X8_isLegal (QZ QT QF) 9 [(0, .ref 72), (1, .int (iI r)), (2, .int (iI b)), (3, .int (iI (k + 1)))] [] σ := fun z => ih (k + 1) (by omega) (by omega) (fun j a c => by
        by_cases e : j = k
        · rw [e]; exact z
        · exact hj j a (by omega))
      refine bX8_isLegal_9 (by omega) (R.high B r0 r6 b0 b2 ⟨fun q => by omega, fun _ => R.at B D r0 r6 k0 (by omega) ?_⟩)
      refine sp_step b0 b2 B R.2.1 k0 (by omega) ⟨fun q => hF (fun L => ?_), fun q => sp_step b0 b2 B R.2.1 k0 (by omega) ⟨fun q1 => nx ⟨q, fun e => absurd e q1⟩, fun q1 => ⟨fun q2 => nx ⟨q, fun _ z => by omega⟩, fun q2 => R.at B D r0 r6 (by omega) (by omega) ⟨fun q3 => nx ⟨q, fun _ _ => ?_⟩, fun q3 => hF (fun L => ?_)⟩⟩⟩⟩
      · have := (L k k0 (by omega)).1
        omega
      · have := D (k - 1) (by omega) (by omega)
        omega
      · have := (L k k0 (by omega)).2 q1 q2
        omega
  refine eX8_isLegal ⟨⟨r0, r6⟩, ?_⟩
  rw [R.1]
  exact lp h 0 (by omega) (by omega) (fun j a c => by omega)
theorem sp_mvalueOf {r b n : Int} {s d : Int → Int} {h : Nat} {σ : ASt} (R : RR σ r b s n h d) (B : BOK s n h) (D : ∀ k : Int, 0 ≤ k → k < h → 0 ≤ d k ∧ d k ≤ 99) (r0 : 0 ≤ r) (r6 : r < 6) (b0 : 0 ≤ b) (b2 : b ≤ 2) {Q : Int → ASt → Prop} (hq : Q (va s d h) σ) : EvL K_X8_valueOf [.ref 72, .int (iI r)] σ Q := by
  have h43 := B.h43
  have lp : ∀ (m : Nat) (k : Int), 0 ≤ k → k + m = h → Wx K_X8_valueOf (QL Q) 5 [(0, .ref 72), (1, .int (iI r)), (2, .long (lI (sm (vf s d) k.toNat))), (4, .int (iI k))] [] σ := by
    intro m
    induction m with
    | zero =>
      intro k k0 hk
      have hb := va_bound B D (e := k.toNat) (by omega)
      unfold va at hb
      refine bX8_valueOf_5 (by omega) (by omega) (R.high B r0 r6 b0 b2 ⟨fun _ => ?_, fun q => by omega⟩)
      rw [show k.toNat = h by omega]; exact hq
    | succ m ih =>
      intro k k0 hk
      have hb := va_bound B D (e := k.toNat) (by omega)
      unfold va at hb
      refine bX8_valueOf_5 (by omega) (by omega) (R.high B r0 r6 b0 b2 ⟨fun q => by omega, fun _ => R.at B D r0 r6 k0 (by omega) ⟨⟨r0, r6⟩, ?_⟩⟩)
      rw [R.1]
      refine sp_mworth b0 b2 B R.2.1 k0 (by omega) ?_
      rw [show sm (vf s d) k.toNat + d k * wo s k.toNat = sm (vf s d) (k + 1).toNat from (sm_i k0).symm]
      exact ih (k + 1) (by omega) (by omega)
  exact eX8_valueOf (lp h 0 (by omega) (by omega))
/-- greedy digits, into the working row -/
theorem sp_makes {b n v : Int} {s : Int → Int} {h : Nat} {σ : ASt} (b0 : 0 ≤ b) (b2 : b ≤ 2) (B : BOK s n h) (M : MB σ b s n h) (v0 : 0 ≤ v) (v1 : i64 v) {Q : ASt → Prop} (hq : ∀ τ, Fr (fun a _ => a ≠ 80) σ τ → (∀ k : Int, 0 ≤ k → k < h → gI τ 80 k = gd s h v k) → Q τ) : EvV K_X8_makes [.ref 72, .int (iI b), .long (lI v)] σ Q := by
  have h43 := B.h43
  have lp : ∀ (m : Nat) (τ : ASt), m ≤ h → Fr (fun a _ => a ≠ 80) σ τ → (∀ k : Int, (m : Int) ≤ k → k < h → gI τ 80 k = gd s h v k) → Wx K_X8_makes (QV Q) 13 [(0, .ref 72), (1, .int (iI b)), (4, .long (lI (rs s h v (h - m)))), (6, .int (iI ((m : Int) - 1)))] [] τ := by
    intro m
    induction m with
    | zero =>
      intro τ hm hA hk
      have g1 := rs_nonneg B.s1 (h := h) v0 (h - 0)
      have g2 := rs_le B.s1 (h := h) v0 (h - 0)
      exact bX8_makes_13 (by omega) (by omega) ⟨fun _ => hq τ hA (fun k a c => hk k (by omega) c), fun q => by omega⟩
    | succ m ih =>
      intro τ hm hA hk
      have g1 := rs_nonneg B.s1 (h := h) v0 (h - (m + 1))
      have g2 := rs_le B.s1 (h := h) v0 (h - (m + 1))
      have g3 := wo_pos B.s1 m
      have Mt : MB τ b s n h := M.fr hA (fun a j x y => by omega)
      rw [show ((m + 1 : Nat) : Int) - 1 = (m : Int) by omega]
      refine bX8_makes_13 (by omega) (by omega) ⟨fun q => by omega, fun _ => ?_⟩
      refine sp_mworth b0 b2 B Mt (by omega) (by omega) ?_
      rw [Int.toNat_natCast]
      have e1 : Int.tdiv (rs s h v (h - (m + 1))) (wo s m) = gd s h v m := by
        rw [Int.tdiv_eq_ediv_of_nonneg g1]
        unfold gd
        rw [if_pos (by omega), Int.toNat_natCast, show h - 1 - m = h - (m + 1) by omega]
      have hA2 : Fr (fun a _ => a ≠ 80) σ (sI τ 80 m (Int.tdiv (rs s h v (h - (m + 1))) (wo s m))) := hA.trans (fr_sI (by omega) (fun a j x => by omega))
      refine ⟨by omega, ⟨by omega, by omega⟩, ?_⟩
      refine sp_mworth b0 b2 B (M.fr hA2 (fun a j x y => by omega)) (by omega) (by omega) ⟨by rw [Int.toNat_natCast]; omega, ?_⟩
      rw [Int.toNat_natCast]
      have e2 : Int.tmod (rs s h v (h - (m + 1))) (wo s m) = rs s h v (h - m) := by
        rw [Int.tmod_eq_emod_of_nonneg g1, show h - m = (h - (m + 1)) + 1 by omega]
        show _ = rs s h v (h - (m + 1)) % wo s (h - 1 - (h - (m + 1)))
        rw [show h - 1 - (h - (m + 1)) = m by omega]
      rw [e2, show (m : Int) + (-1) = (m : Int) - 1 by omega]
      refine ih _ (by omega) hA2 (fun k a c => ?_)
      by_cases z : k = m
      · rw [z, gI_self]; exact e1
      · rw [gI_ne _ _ _ z]; exact hk k (by omega) c
  refine eX8_makes ⟨⟨b0, by omega⟩, ?_⟩
  rw [M.2.1]
  have := lp h σ (Nat.le_refl _) Fr.rf (fun k a c => by omega)
  rw [Nat.sub_self] at this
  exact this
/-- the working row, into a reel: how many digits were otherwise -/
theorem sp_takes {r b n : Int} {s d g : Int → Int} {h : Nat} {σ : ASt} (R : RR σ r b s n h d) (B : BOK s n h) (D : ∀ k : Int, 0 ≤ k → k < h → 0 ≤ d k ∧ d k ≤ 99) (G : ∀ k : Int, 0 ≤ k → k < h → 0 ≤ g k ∧ g k ≤ 99) (hg : ∀ k : Int, 0 ≤ k → k < h → gI σ 80 k = g k) (r0 : 0 ≤ r) (r6 : r < 6) (b0 : 0 ≤ b) (b2 : b ≤ 2) {Q : Int → ASt → Prop} (hq : ∀ τ, Fr (fun a j => ¬ (a = 79 ∧ 50 * r ≤ j ∧ j < 50 * r + h)) σ τ → RR τ r b s n h g → Q (ct (fun k => d k - g k) h) τ) : EvI K_X8_takes [.ref 72, .int (iI r)] σ Q := by
  have h43 := B.h43
  have lp : ∀ (m : Nat) (k : Int) (τ : ASt), 0 ≤ k → k + m = h → Fr (fun a j => ¬ (a = 79 ∧ 50 * r ≤ j ∧ j < 50 * r + h)) σ τ → (∀ j : Int, 0 ≤ j → j < h → gI τ 79 (50 * r + j) = if j < k then g j else d j) → Wx K_X8_takes (QI Q) 4 [(0, .ref 72), (1, .int (iI r)), (2, .int (iI (ct (fun k => d k - g k) k.toNat))), (3, .int (iI k))] [] τ := by
    intro m
    induction m with
    | zero =>
      intro k τ k0 hk A hj
      have := ct_b (fun k => d k - g k) k.toNat
      have Mt : MB τ b s n h := R.2.1.fr A (fun a j x y => by omega)
      have e1 : gI τ 78 r = b := (A.I (by omega)).trans R.1
      refine bX8_takes_4 (by omega) (by omega) (sp_mhigh r0 r6 b0 b2 h43 e1 Mt.2.1 ⟨fun _ => ?_, fun q => by omega⟩)
      rw [show k.toNat = h by omega]
      exact hq τ A ⟨e1, Mt, fun j a c => by rw [hj j a c, if_pos (by omega)]⟩
    | succ m ih =>
      intro k τ k0 hk A hj
      have := ct_b (fun k => d k - g k) k.toNat
      have Mt : MB τ b s n h := R.2.1.fr A (fun a j x y => by omega)
      have e1 : gI τ 78 r = b := (A.I (by omega)).trans R.1
      have e2 := hj k k0 (by omega)
      rw [if_neg (by omega)] at e2
      have e3 : gI τ 80 k = g k := (A.I (by omega)).trans (hg k k0 (by omega))
      have dk := D k k0 (by omega)
      have gk := G k k0 (by omega)
      have A2 : Fr (fun a j => ¬ (a = 79 ∧ 50 * r ≤ j ∧ j < 50 * r + h)) σ (sI τ 79 (50 * r + k) (g k)) := A.trans (fr_sI (by omega) (fun a j x => by omega))
      have nx := ih (k + 1) (sI τ 79 (50 * r + k) (g k)) (by omega) (by omega) A2 (fun j a c => by
        by_cases z : j = k
        · rw [z, gI_self, if_pos (by omega)]
        · rw [gI_ne _ _ _ (by omega), hj j a c]
          by_cases z2 : j < k
          · rw [if_pos z2, if_pos (by omega)]
          · rw [if_neg z2, if_neg (by omega)])
      rw [ct_i k0] at nx
      refine bX8_takes_4 (by omega) (by omega) (sp_mhigh r0 r6 b0 b2 h43 e1 Mt.2.1 ⟨fun q => by omega, fun _ => sp_digitAt r0 r6 k0 (by omega) e2 (by omega) ⟨⟨k0, by omega⟩, ?_⟩⟩)
      rw [e3]
      refine ⟨by omega, fun q => ⟨⟨by omega, by omega⟩, ?_⟩, fun q => ⟨⟨by omega, by omega⟩, ?_⟩⟩
      · rw [if_neg (by omega)] at nx; exact nx
      · rw [if_pos (by omega)] at nx; exact nx
  exact eX8_takes (lp h 0 σ (by omega) (by omega) Fr.rf (fun j a c => by rw [if_neg (by omega)]; exact R.2.2 j a c))
/-! the reference's deeds -/
def ME (σ : ASt) (j : Int) (x : Int × (Int → Int)) (h : Nat) : Prop := gI σ 81 j = x.1 ∧ ∀ k : Int, 0 ≤ k → k < h → gI σ 82 (50 * j + k) = x.2 k
/-- digits wherever deeds lie -/
def M82 (σ : ASt) : Prop := ∀ j : Int, 0 ≤ j → j < 600 → 0 ≤ gI σ 82 j ∧ gI σ 82 j ≤ 99
abbrev DP8 : Nat → Int → Prop := fun a j => a ≠ 81 ∧ a ≠ 82 ∧ ¬ (a = 72 ∧ j = 10)
abbrev DQ8 : Nat → Int → Prop := fun a _ => a ≠ 81 ∧ a ≠ 82
theorem sp_moves {p q : Int} {σ : ASt} (p0 : 0 ≤ p) (p1 : p < 12) (q0 : 0 ≤ q) (q1 : q < 12) (hd : M82 σ) {Q : ASt → Prop} (hq : ∀ τ, Fr DQ8 σ τ → M82 τ → (∀ x h, h ≤ 43 → ME σ p x h → ME τ q x h) → (∀ j x h, h ≤ 43 → j ≠ q → ME σ j x h → ME τ j x h) → Q τ) : EvV K_X8_moves [.ref 72, .int (iI p), .int (iI q)] σ Q := by
  have A0 : Fr DQ8 σ (sI σ 81 q (gI σ 81 p)) := fr_sI (by omega) (fun a j x => by omega)
  have lp : ∀ (m : Nat) (k : Int) (τ : ASt), 0 ≤ k → k + m = 50 → Fr DQ8 σ τ → (∀ j, gI τ 81 j = if j = q then gI σ 81 p else gI σ 81 j) → (∀ j : Int, gI τ 82 j = if 50 * q ≤ j ∧ j < 50 * q + k then gI σ 82 (50 * p + (j - 50 * q)) else gI σ 82 j) → Wx K_X8_moves (QV Q) 14 [(0, .ref 72), (1, .int (iI p)), (2, .int (iI q)), (3, .int (iI k))] [] τ := by
    intro m
    induction m with
    | zero =>
      intro k τ k0 hk A h1 h2
      refine bX8_moves_14 (by omega) ⟨fun _ => hq τ A (fun j j0 j1 => ?_) (fun x h h43 e => ⟨?_, fun i i0 i1 => ?_⟩) (fun j x h h43 hj e => ⟨?_, fun i i0 i1 => ?_⟩), fun z => by omega⟩
      · rw [h2]
        split
        · exact hd _ (by omega) (by omega)
        · exact hd _ j0 j1
      · rw [h1, if_pos rfl]; exact e.1
      · rw [h2, if_pos (by omega), show 50 * p + (50 * q + i - 50 * q) = 50 * p + i by omega]; exact e.2 i i0 i1
      · rw [h1, if_neg hj]; exact e.1
      · rw [h2, if_neg (by omega)]; exact e.2 i i0 i1
    | succ m ih =>
      intro k τ k0 hk A h1 h2
      refine bX8_moves_14 (by omega) ⟨fun z => by omega, fun _ => ⟨⟨by omega, by omega⟩, ⟨by omega, by omega⟩, ih (k + 1) _ (by omega) (by omega) (A.trans (fr_sI (by omega) (fun a j x => by omega))) (fun j => ?_) (fun j => ?_)⟩⟩
      · rw [gI_na _ _ _ _ (by omega)]; exact h1 j
      · by_cases z : j = 50 * q + k
        · rw [z, gI_self, h2, if_neg (show ¬ (50 * q ≤ 50 * p + k ∧ 50 * p + k < 50 * q + k) by omega), if_pos (show 50 * q ≤ 50 * q + k ∧ 50 * q + k < 50 * q + (k + 1) by omega), show 50 * q + k - 50 * q = k by omega]
        · rw [gI_ne _ _ _ z, h2]
          by_cases z2 : 50 * q ≤ j ∧ j < 50 * q + k
          · rw [if_pos z2, if_pos (by omega)]
          · rw [if_neg z2, if_neg (by omega)]
  refine eX8_moves ⟨⟨p0, p1⟩, ⟨q0, q1⟩, lp 50 0 _ (by omega) (by omega) A0 (fun j => ?_) (fun j => ?_)⟩
  · rw [gI_sI]
    by_cases z : j = q
    · rw [if_pos ⟨rfl, z⟩, if_pos z]
    · rw [if_neg (fun y => z y.2), if_neg z]
  · rw [gI_na _ _ _ _ (by omega), if_neg (by omega)]
