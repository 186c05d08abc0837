/-! the reference's calls, second batch -/
/-- counts: all 0, all other, moved up -/
theorem ct_zero {f : Int → Int} : ∀ {n : Nat}, (∀ k : Nat, k < n → f k = 0) → ct f n = 0
  | 0, _ => rfl
  | n + 1, h => by
    show ct f n + (if f n = 0 then 0 else 1) = 0
    rw [ct_zero (fun k hk => h k (by omega)), if_pos (h n (by omega))]; rfl
theorem ct_zero' {f : Int → Int} : ∀ {n : Nat}, ct f n = 0 → ∀ k : Nat, k < n → f k = 0
  | 0, _, k, hk => by omega
  | n + 1, h, k, hk => by
    have hh : ct f n + (if f n = 0 then 0 else 1) = 0 := h
    have hb := ct_b f n
    by_cases q : f n = 0
    · rw [if_pos q] at hh
      by_cases e : k = n
      · rw [e]; exact q
      · exact ct_zero' (n := n) (by omega) k (by omega)
    · rw [if_neg q] at hh; omega
theorem ct_ones {f : Int → Int} {m : Nat} : ∀ {n : Nat}, m ≤ n → (∀ k : Nat, m ≤ k → k < n → f k ≠ 0) → ct f n = ct f m + (n - m)
  | 0, h, _ => by rw [Nat.le_zero.mp h]; omega
  | n + 1, h, hz => by
    by_cases e : m = n + 1
    · rw [e]; omega
    · show ct f n + (if f n = 0 then 0 else 1) = _
      rw [ct_ones (n := n) (by omega) (fun k h1 h2 => hz k h1 (by omega)), if_neg (hz n (by omega) (by omega))]; omega
theorem ct_up {f g : Int → Int} {n : Nat} (h0 : ∀ k : Nat, k < n → g k = 0) : ∀ {i : Nat}, (∀ k : Nat, k < i → g ((n + k : Nat) : Int) = f k) → ct g (n + i) = ct f i
  | 0, _ => ct_zero (fun k hk => h0 k hk)
  | i + 1, h => by
    show ct g (n + i) + (if g ((n + i : Nat) : Int) = 0 then 0 else 1) = ct f i + (if f (i : Int) = 0 then 0 else 1)
    rw [ct_up h0 (fun k hk => h k (by omega)), h i (by omega)]
theorem ct_sum {f g e : Int → Int} : ∀ {n : Nat}, (∀ k : Nat, k < n → (g k = 0 ∧ f k = e k) ∨ (e k = 0 ∧ f k = g k)) → ct f n = ct g n + ct e n
  | 0, _ => rfl
  | n + 1, h => by
    show ct f n + (if f n = 0 then 0 else 1) = ct g n + (if g n = 0 then 0 else 1) + (ct e n + (if e n = 0 then 0 else 1))
    rw [ct_sum (fun k hk => h k (by omega))]
    rcases h n (by omega) with ⟨q1, q2⟩ | ⟨q1, q2⟩
    · rw [q1, q2, if_pos rfl]; omega
    · rw [q1, q2, if_pos rfl]; omega
/-- digits that a shift drops -/
def lost (d : Int → Int) (h : Nat) (z k : Int) : Int := if 0 ≤ k + z ∧ k + z < h then 0 else d k
theorem ct_shf {d : Int → Int} {h : Nat} (z : Int) : ct d h - ct (shf d h z) h = ct (lost d h z) h := by
  have e1 : ct d h = ct (lost d h z) h + ct (fun k => if 0 ≤ k + z ∧ k + z < h then d k else 0) h := ct_sum (fun k hk => by
    unfold lost
    by_cases q : 0 ≤ (k : Int) + z ∧ (k : Int) + z < h
    · left; exact ⟨if_pos q, (if_pos q).symm⟩
    · right; exact ⟨if_neg q, (if_neg q).symm⟩)
  have e2 : ct (fun k => if 0 ≤ k + z ∧ k + z < h then d k else 0) h = ct (shf d h z) h := by
    rcases Int.lt_or_le z 0 with q | q
    · -- down
      by_cases q2 : (h : Int) ≤ -z
      · rw [ct_zero (f := shf d h z) (fun k hk => if_neg (by omega)), ct_zero (fun k hk => if_neg (by omega))]
      · obtain ⟨m, hm⟩ : ∃ m : Nat, z = -(m : Int) := ⟨(-z).toNat, by omega⟩
        have e3 : ct (shf d h z) h = ct (shf d h z) (h - m) := ct_split (by omega) (fun k a b => if_neg (by omega))
        rw [e3]
        have := ct_up (f := shf d h z) (g := fun k => if 0 ≤ k + z ∧ k + z < h then d k else 0) (n := m) (fun k hk => if_neg (by omega)) (i := h - m) (fun k hk => by
          have g1 : (if 0 ≤ ((m + k : Nat) : Int) + z ∧ ((m + k : Nat) : Int) + z < h then d ((m + k : Nat) : Int) else 0) = d ((m + k : Nat) : Int) := if_pos (by omega)
          have g2 : shf d h z k = d (k - z) := if_pos (by omega)
          rw [g2]
          show (if 0 ≤ ((m + k : Nat) : Int) + z ∧ ((m + k : Nat) : Int) + z < h then d ((m + k : Nat) : Int) else 0) = _
          rw [g1, show ((m + k : Nat) : Int) = (k : Int) - z by omega])
        rw [show m + (h - m) = h by omega] at this
        exact this
    · by_cases q2 : (h : Int) ≤ z
      · rw [ct_zero (f := shf d h z) (fun k hk => if_neg (by omega)), ct_zero (fun k hk => if_neg (by omega))]
      · obtain ⟨m, hm⟩ : ∃ m : Nat, z = (m : Int) := ⟨z.toNat, by omega⟩
        have e3 : ct (fun k => if 0 ≤ k + z ∧ k + z < h then d k else 0) h = ct (fun k => if 0 ≤ k + z ∧ k + z < h then d k else 0) (h - m) := ct_split (by omega) (fun k a b => if_neg (by omega))
        rw [e3]
        have := ct_up (f := fun k => if 0 ≤ k + z ∧ k + z < h then d k else 0) (g := shf d h z) (n := m) (fun k hk => if_neg (by omega)) (i := h - m) (fun k hk => by
          have g1 : (if 0 ≤ (k : Int) + z ∧ (k : Int) + z < h then d k else 0) = d k := if_pos (by omega)
          have g2 : shf d h z ((m + k : Nat) : Int) = d (((m + k : Nat) : Int) - z) := if_pos (by omega)
          rw [g2]
          show _ = (if 0 ≤ (k : Int) + z ∧ (k : Int) + z < h then d k else 0)
          rw [g1, show ((m + k : Nat) : Int) - z = (k : Int) by omega])
        rw [show m + (h - m) = h by omega] at this
        exact this.symm
  omega
theorem M_settle {σ : ASt} {α : AB} (W : WF α) (C : MAll σ α) {r : Int} (hr : i32 r) {Q : Int → ASt → Prop} (hq : ∀ τ, MO σ τ → MAll τ (oSettle α r).2 → Q (oSettle α r).1 τ) : EvI K_X8_settle [.ref 72, .int (iI r)] σ Q := by
  unfold oSettle at hq
  refine eX8_settle (sp_refusal W C.2.1 hr (fun q => ⟨fun z => by omega, fun _ => ?_⟩) (fun q hb => ⟨fun z => by omega, fun _ => ?_⟩) (fun r0 r6 hb b0 b2 => ⟨fun _ => ?_, fun z => absurd rfl z⟩))
  · rw [pit_neg q] at hq; exact hq σ Ag.rf C
  · rw [pit_pos q, pit_pos hb] at hq; exact hq σ Ag.rf C
  rw [pit_pos (by omega), pit_neg hb] at hq
  obtain ⟨B, D, R⟩ := mreel_facts W C r0 r6 b0 b2
  have h43 := B.h43
  refine sp_mdoes W C Fr.rf r0 r6 b0 (fun τ A1 L1 h82 => ?_)
  have R1 := R.fr A1 h43 (fun a j x y => by omega) (by omega) (fun j _ _ => by omega)
  have A0 : Fr (fun a j => DP8 a j) σ τ := A1
  have lp : ∀ (f : Nat) (e : Int → Int) (c : Nat) (υ : ASt), sm e (rH α r) ≤ f → c + f ≤ 5000 → DOK e (rH α r) → Fr (fun a j => ¬ (a = 79 ∧ 50 * r ≤ j ∧ j < 50 * r + rH α r)) τ υ → RR υ r (rB α r) (rS α r) (rN α r) (rH α r) e → (∀ m d', Stl (rS α r) (rH α r) m e d' → Stl (rS α r) (rH α r) (c + m) (rD α r) d') → ∀ (g : Nat) (k : Int), k < g → -1 ≤ k → k ≤ (rH α r : Int) - 2 → (∀ j : Int, k < j → ¬ canC (rS α r) (rH α r) e j 1) → Wx K_X8_settle (QI Q) 28 [(0, .ref 72), (1, .int (iI r)), (3, .int (iI (c : Int))), (4, .int (iI k))] [] υ := by
    intro f
    induction f with
    | zero =>
      intro e c υ hs hc De A2 R2 hst g
      have nc := no_carry B De hs
      induction g with
      | zero =>
        intro k kg k0 k1 hno
        have hd : stlP (rS α r) (rH α r) (rD α r) = (c, e) := stlP_eq (hst 0 e ⟨nc, rfl⟩)
        rw [hd] at hq
        refine bX8_settle_28 (by omega) (by omega) ⟨fun _ => hq υ (A1.1.trans A2.1) (C.turn W r0 r6 ((A1.mono (fun a j x => by omega)).trans (A2.mono (fun a j x => by omega))) R2.1 R2.2.2 (L1.fr A2 (by omega) (fun _ => by omega) (fun _ => by omega)) (C.2.2.2.2.2.2.put (r := r) (h := rH α r) (h82.fr A2 (fun _ => by omega)) ((A1.mono (fun a j x => by omega)).trans (A2.mono (fun a j x => by omega))) (fun j a c => ?_))), fun z => by omega⟩
        by_cases z : j < 50 * r + rH α r
        · left
          have e := R2.2.2 (j - 50 * r) (by omega) (by omega)
          rw [show 50 * r + (j - 50 * r) = j by omega] at e
          have := De.all (j - 50 * r)
          exact ⟨a, z, by omega, by omega⟩
        · right; rw [A2.I (by omega), A1.I (by omega)]
      | succ g ih =>
        intro k kg k0 k1 hno
        by_cases kz : k < 0
        · exact ih k (by omega) k0 k1 hno
        · refine bX8_settle_28 (by omega) (by omega) ⟨fun z => absurd z kz, fun _ => ?_⟩
          refine sp_can R2 B De.1 r0 r6 b0 b2 (Or.inl ⟨rfl, rfl⟩) (by omega) (by omega) (fun hcc => absurd hcc (nc k)) (fun _ => ?_)
          rw [show k + (-1) = k - 1 by omega]
          exact ih (k - 1) (by omega) (by omega) (by omega) (fun j hj => nc j)
    | succ f ihf =>
      intro e c υ hs hc De A2 R2 hst g
      induction g with
      | zero =>
        intro k kg k0 k1 hno
        have nc : ∀ j : Int, ¬ canC (rS α r) (rH α r) e j 1 := fun j hcc => by
          by_cases z : k < j
          · exact hno j z hcc
          · have := hcc.1; omega
        have hd : stlP (rS α r) (rH α r) (rD α r) = (c, e) := stlP_eq (hst 0 e ⟨nc, rfl⟩)
        rw [hd] at hq
        refine bX8_settle_28 (by omega) (by omega) ⟨fun _ => hq υ (A1.1.trans A2.1) (C.turn W r0 r6 ((A1.mono (fun a j x => by omega)).trans (A2.mono (fun a j x => by omega))) R2.1 R2.2.2 (L1.fr A2 (by omega) (fun _ => by omega) (fun _ => by omega)) (C.2.2.2.2.2.2.put (r := r) (h := rH α r) (h82.fr A2 (fun _ => by omega)) ((A1.mono (fun a j x => by omega)).trans (A2.mono (fun a j x => by omega))) (fun j a c => ?_))), fun z => by omega⟩
        by_cases z : j < 50 * r + rH α r
        · left
          have e := R2.2.2 (j - 50 * r) (by omega) (by omega)
          rw [show 50 * r + (j - 50 * r) = j by omega] at e
          have := De.all (j - 50 * r)
          exact ⟨a, z, by omega, by omega⟩
        · right; rw [A2.I (by omega), A1.I (by omega)]
      | succ g ih =>
        intro k kg k0 k1 hno
        by_cases kz : k < 0
        · exact ih k (by omega) k0 k1 hno
        · refine bX8_settle_28 (by omega) (by omega) ⟨fun z => absurd z kz, fun _ => ?_⟩
          refine sp_can R2 B De.1 r0 r6 b0 b2 (Or.inl ⟨rfl, rfl⟩) (by omega) (by omega) (fun hcc => ?_) (fun hcc => ?_)
          · refine sp_goes R2 B r0 r6 b0 b2 (Or.inl ⟨rfl, rfl⟩) hcc (fun ω A3 R3 => ?_)
            refine R3.high B r0 r6 b0 b2 ?_
            have s1 := sm_crr B hcc
            have hh := B.2.2.2.2.1
            rw [show (c : Int) + 1 = ((c + 1 : Nat) : Int) by omega]
            refine ihf (crr (rS α r) e k 1) (c + 1) ω (by omega) (by omega) (crr_DOK De hcc) (A2.trans A3) R3 (fun m d' hm => ?_) 43 ((rH α r : Int) - 2) (by omega) (by omega) (Int.le_refl _) (fun j hj hc2 => by have := hc2.2.1; omega)
            have := hst (m + 1) d' ⟨k, hcc, hno, hm⟩
            rw [show c + 1 + m = c + (m + 1) by omega]
            exact this
          · rw [show k + (-1) = k - 1 by omega]
            refine ih (k - 1) (by omega) (by omega) (by omega) (fun j hj => ?_)
            by_cases z : j = k
            · rw [z]; exact hcc
            · exact hno j (by omega)
  have hs := sm_digits B D
  have hh := B.2.2.2.2.1
  refine R1.high B r0 r6 b0 b2 (lp 4257 (rD α r) 0 τ (by omega) (by omega) D Fr.rf R1 (fun m d' hm => by rw [Nat.zero_add]; exact hm) 43 ((rH α r : Int) - 2) (by omega) (by omega) (Int.le_refl _) (fun j hj hc2 => by have := hc2.2.1; omega))
theorem M_right {σ : ASt} {α : AB} (W : WF α) (C : MAll σ α) {r : Int} (hr : i32 r) {Q : Int → ASt → Prop} (hq : ∀ τ, MO σ τ → MAll τ (oRight α r).2 → Q (oRight α r).1 τ) : EvI K_X8_right [.ref 72, .int (iI r)] σ Q := by
  unfold oRight at hq
  refine eX8_right (sp_refusal W C.2.1 hr (fun q => ⟨fun z => by omega, fun _ => ?_⟩) (fun q hb => ⟨fun z => by omega, fun _ => ?_⟩) (fun r0 r6 hb b0 b2 => ⟨fun _ => ?_, fun z => absurd rfl z⟩))
  · rw [pit_neg q] at hq; exact hq σ Ag.rf C
  · rw [pit_pos q, pit_pos hb] at hq; exact hq σ Ag.rf C
  rw [pit_pos (by omega), pit_neg hb] at hq
  obtain ⟨B, D, R⟩ := mreel_facts W C r0 r6 b0 b2
  have h1 := B.top
  have h2 := wo_pos B.s1 (rH α r)
  have vb := va_bound B D.1 (Nat.le_refl _)
  refine sp_mvalueOf R B D.1 r0 r6 b0 b2 ⟨⟨r0, r6⟩, ?_⟩
  rw [R.1, R.2.1.2.2.1]
  refine ⟨⟨b0, by omega⟩, by omega, fun q => ?_, fun q => ?_⟩
  · rw [pit_pos (show rV α r ≤ rTop α r from q)] at hq
    refine sp_mvalueOf R B D.1 r0 r6 b0 b2 ?_
    refine sp_makes b0 b2 B R.2.1 vb.1 (by omega) (fun τ A1 g1 => ?_)
    have G := gd_DOK B vb.1 (v := va (rS α r) (rD α r) (rH α r)) (by omega)
    refine sp_mdoes W C (A1.mono (fun a j x => x.1)) r0 r6 b0 (fun υ A2 L2 h82 => ?_)
    exact sp_mtakes W C r0 r6 b0 b2 G ((A1.mono (fun a j x => x.2.1)).trans (A2.mono (fun a j x => x.1))) L2 h82 (fun k a c => (A2.I (by omega)).trans (g1 k a c)) hq
  · rw [pit_neg (show ¬ rV α r ≤ rTop α r from Int.not_le.mpr q)] at hq
    exact hq σ Ag.rf C
theorem M_on {σ : ASt} {α : AB} (W : WF α) (C : MAll σ α) {r t : Int} (hr : i32 r) (ht : i32 t) {Q : Int → ASt → Prop} (hq : ∀ τ, MO σ τ → MAll τ (oOn α r t).2 → Q (oOn α r t).1 τ) : EvI K_X8_on [.ref 72, .int (iI r), .int (iI t)] σ Q := by
  unfold oOn at hq
  refine eX8_on ht (sp_mReel hr (fun r0 r6 => ?_) (fun q => by rw [pit_neg (by omega)] at hq; exact hq σ Ag.rf C))
  refine sp_in (by omega) (by omega) (by omega) (fun t0 t1 => ?_) (fun q => by rw [pit_neg (by omega)] at hq; exact hq σ Ag.rf C)
  rw [pit_pos (by omega)] at hq
  refine sp_mEmpty W C.2.1 r0 r6 (fun hb => by rw [pit_pos hb] at hq; exact hq σ Ag.rf C) (fun hb b0 b2 => ?_)
  rw [pit_neg hb] at hq
  obtain ⟨B, D, R⟩ := mreel_facts W C r0 r6 b0 b2
  have h1 := B.top
  have h2 := wo_pos B.s1 (rH α r)
  have vb := va_bound B D.1 (Nat.le_refl _)
  refine sp_isLegal R B D.1 r0 r6 b0 b2 (fun g => ?_) (fun g => by rw [pit_neg g] at hq; exact hq σ Ag.rf C)
  rw [pit_pos g] at hq
  refine sp_mvalueOf R B D.1 r0 r6 b0 b2 ⟨⟨r0, r6⟩, ?_⟩
  rw [R.1, R.2.1.2.2.1]
  have ev : rV α r = va (rS α r) (rD α r) (rH α r) := rfl
  have et : rTop α r = wo (rS α r) (rH α r) - 1 := rfl
  refine ⟨⟨b0, by omega⟩, sp_in (by omega) (by omega) (by omega) (fun a1 a2 => ?_) (fun q => by rw [pit_neg (by omega)] at hq; exact hq σ Ag.rf C)⟩
  rw [pit_pos (by omega)] at hq
  rw [R.1]
  refine sp_makes b0 b2 B R.2.1 a1 (by omega) (fun τ A1 g1 => ?_)
  have G := gd_DOK B a1 (by omega)
  refine sp_mdoes W C (A1.mono (fun a j x => x.1)) r0 r6 b0 (fun υ A2 L2 h82 => ?_)
  exact sp_mtakes W C r0 r6 b0 b2 G ((A1.mono (fun a j x => x.2.1)).trans (A2.mono (fun a j x => x.1))) L2 h82 (fun k a c => (A2.I (by omega)).trans (g1 k a c)) hq
theorem M_shift {σ : ASt} {α : AB} (W : WF α) (C : MAll σ α) {r z : Int} (hr : i32 r) (hz : i32 z) {Q : Int → ASt → Prop} (hq : ∀ τ, MO σ τ → MAll τ (oShift α r z).2 → Q (oShift α r z).1 τ) : EvI K_X8_shift [.ref 72, .int (iI r), .int (iI z)] σ Q := by
  unfold oShift at hq
  refine eX8_shift hz (sp_mReel hr (fun r0 r6 => ?_) (fun q => by rw [pit_neg (by omega)] at hq; exact hq σ Ag.rf C))
  refine sp_in (by omega) (by omega) (by omega) (fun z0 z9 => ?_) (fun q => by rw [pit_neg (by omega)] at hq; exact hq σ Ag.rf C)
  rw [pit_pos (by omega)] at hq
  refine sp_mEmpty W C.2.1 r0 r6 (fun hb => by rw [pit_pos hb] at hq; exact hq σ Ag.rf C) (fun hb b0 b2 => ?_)
  rw [pit_neg hb] at hq
  obtain ⟨B, D, R⟩ := mreel_facts W C r0 r6 b0 b2
  have h43 := B.h43
  have S := shf_DOK D z
  refine sp_mdoes W C Fr.rf r0 r6 b0 (fun τ A1 L1 h82 => ?_)
  have R1 := R.fr A1 h43 (fun a j x y => by omega) (by omega) (fun j _ _ => by omega)
  have eq0 : ct (rD α r) 43 - ct (shf (rD α r) (rH α r) z) 43 = ct (lost (rD α r) (rH α r) z) (rH α r) := by
    rw [ct_h D h43, ct_h S h43]; exact ct_shf z
  rw [eq0] at hq
  have lp : ∀ (m : Nat) (k : Int) (υ : ASt), 0 ≤ k → k + m = rH α r → Fr (fun a _ => a ≠ 80) τ υ → (∀ j : Int, 0 ≤ j → j < k → gI υ 80 j = shf (rD α r) (rH α r) z j) → Wx K_X8_shift (QI Q) 45 [(0, .ref 72), (1, .int (iI r)), (2, .int (iI z)), (3, .int (iI (ct (lost (rD α r) (rH α r) z) k.toNat))), (4, .int (iI k))] [] υ := by
    intro m
    induction m with
    | zero =>
      intro k υ k0 hk A2 hj
      have := ct_b (lost (rD α r) (rH α r) z) k.toNat
      have R2 := R1.fr A2 h43 (fun a j x y => by omega) (by omega) (fun j _ _ => by omega)
      refine bX8_shift_45 (by omega) (by omega) (R2.high B r0 r6 b0 b2 ⟨fun _ => ?_, fun q => by omega⟩)
      refine sp_mtakes W C r0 r6 b0 b2 S ((A1.mono (fun a j x => x.1)).trans (A2.mono (fun a j x => x.2.1))) (L1.fr A2 (by omega) (fun _ => by omega) (fun _ => by omega)) (h82.fr A2 (fun _ => by omega)) (fun j a c => hj j a (by omega)) (fun ω A3 C3 => ?_)
      rw [show k.toNat = rH α r by omega]
      exact hq ω A3 C3
    | succ m ih =>
      intro k υ k0 hk A2 hj
      have hb2 := ct_b (lost (rD α r) (rH α r) z) k.toNat
      have R2 := R1.fr A2 h43 (fun a j x y => by omega) (by omega) (fun j _ _ => by omega)
      have dk := D.all k
      have nx : ∀ x y : Int, x = shf (rD α r) (rH α r) z k → y = ct (lost (rD α r) (rH α r) z) (k + 1).toNat → Wx K_X8_shift (QI Q) 45 [(0, .ref 72), (1, .int (iI r)), (2, .int (iI z)), (3, .int (iI y)), (4, .int (iI (k + 1)))] [] (sI υ 80 k x) := fun x y hx hy => by
        rw [hy]
        refine ih (k + 1) _ (by omega) (by omega) (A2.trans (fr_sI (by omega) (fun a j x => by omega))) (fun j a c => ?_)
        by_cases e : j = k
        · rw [e, gI_self]; exact hx
        · rw [gI_ne _ _ _ e]; exact hj j a (by omega)
      rw [ct_i k0] at nx
      have el : lost (rD α r) (rH α r) z k = if 0 ≤ k + z ∧ k + z < rH α r then 0 else rD α r k := rfl
      have es : shf (rD α r) (rH α r) z k = if 0 ≤ k ∧ k < (rH α r : Int) ∧ 0 ≤ k - z ∧ k - z < (rH α r : Int) then rD α r (k - z) else 0 := rfl
      refine bX8_shift_45 (by omega) (by omega) (R2.high B r0 r6 b0 b2 ⟨fun q => by omega, fun _ => R2.at B D.1 r0 r6 k0 (by omega) ⟨fun q => ?_, fun q => ?_⟩⟩)
      · have y0 : lost (rD α r) (rH α r) z k = 0 := by rw [el]; split <;> omega
        rw [if_pos y0] at nx
        refine ⟨by omega, R2.high B r0 r6 b0 b2 ⟨by omega, sp_in (by omega) (by omega) (by omega) (fun a1 a2 => R2.at B D.1 r0 r6 a1 (by omega) ⟨⟨k0, by omega⟩, nx _ _ ?_ rfl⟩) (fun a1 => ⟨⟨k0, by omega⟩, nx _ _ ?_ rfl⟩)⟩⟩
        · rw [es, if_pos (by omega)]
        · rw [es, if_neg (by omega)]
      · refine ⟨by omega, R2.high B r0 r6 b0 b2 ⟨by omega, sp_in (by omega) (by omega) (by omega) (fun c1 c2 => ?_) (fun c1 => ?_)⟩⟩
        · have y0 : lost (rD α r) (rH α r) z k = 0 := by rw [el, if_pos (by omega)]
          rw [if_pos y0] at nx
          refine ⟨by omega, R2.high B r0 r6 b0 b2 ⟨by omega, sp_in (by omega) (by omega) (by omega) (fun a1 a2 => R2.at B D.1 r0 r6 a1 (by omega) ⟨⟨k0, by omega⟩, nx _ _ ?_ rfl⟩) (fun a1 => ⟨⟨k0, by omega⟩, nx _ _ ?_ rfl⟩)⟩⟩
          · rw [es, if_pos (by omega)]
          · rw [es, if_neg (by omega)]
        · have y0 : lost (rD α r) (rH α r) z k ≠ 0 := by rw [el, if_neg (by omega)]; omega
          rw [if_neg y0] at nx
          refine ⟨by omega, R2.high B r0 r6 b0 b2 ⟨by omega, sp_in (by omega) (by omega) (by omega) (fun a1 a2 => R2.at B D.1 r0 r6 a1 (by omega) ⟨⟨k0, by omega⟩, nx _ _ ?_ rfl⟩) (fun a1 => ⟨⟨k0, by omega⟩, nx _ _ ?_ rfl⟩)⟩⟩
          · rw [es, if_pos (by omega)]
          · rw [es, if_neg (by omega)]
  exact lp (rH α r) 0 τ (by omega) (by omega) Fr.rf (fun j a c => by omega)
theorem M_sum {σ : ASt} {α : AB} (W : WF α) (C : MAll σ α) {p q t w : Int} (hp : i32 p) (hq0 : i32 q) (ht : i32 t) (hw : i32 w) {Q : Int → ASt → Prop} (hq : ∀ τ, MO σ τ → MAll τ (oSum α p q t w).2 → Q (oSum α p q t w).1 τ) : EvI K_X8_sum [.ref 72, .int (iI p), .int (iI q), .int (iI t), .int (iI w)] σ Q := by
  have bad : ¬ (okR p ∧ okR q ∧ okR t ∧ 0 ≤ w ∧ w ≤ 4) → Q (-2) σ := fun z => by
    unfold oSum at hq
    rw [pit_neg z] at hq
    exact hq σ Ag.rf C
  refine eX8_sum hw (sp_mReel hp (fun p0 p6 => ?_) (fun z => bad (by omega)))
  refine sp_mReel hq0 (fun q0 q6 => ?_) (fun z => bad (by omega))
  refine sp_mReel ht (fun t0 t6 => ?_) (fun z => bad (by omega))
  refine sp_in (by omega) (by omega) (by omega) (fun w0 w4 => ?_) (fun z => bad (by omega))
  clear bad
  unfold oSum at hq
  rw [pit_pos (by omega)] at hq
  refine sp_mEmpty W C.2.1 p0 p6 (fun hb => by rw [pit_pos (Or.inl hb)] at hq; exact hq σ Ag.rf C) (fun hb b0 b2 => ?_)
  refine sp_mEmpty W C.2.1 q0 q6 (fun hb' => by rw [pit_pos (Or.inr hb')] at hq; exact hq σ Ag.rf C) (fun hb' b0' b2' => ?_)
  rw [pit_neg (by omega)] at hq
  obtain ⟨B, D, R⟩ := mreel_facts W C p0 p6 b0 b2
  obtain ⟨B', D', R'⟩ := mreel_facts W C q0 q6 b0' b2'
  have h43 := B.h43
  rw [R.1, R'.1]
  refine ⟨⟨p0, p6⟩, ⟨q0, q6⟩, by omega, by omega, fun e => ?_, fun e => ?_⟩
  · have eb : rB α p = rB α q := e
    have eH : rH α q = rH α p := by unfold rH; show aH α (rB α q).toNat = aH α (rB α p).toNat; rw [eb]
    have eS : rS α q = rS α p := by unfold rS; show aS α (rB α q).toNat = aS α (rB α p).toNat; rw [eb]
    have eN : rN α q = rN α p := by unfold rN; show aN α (rB α q).toNat = aN α (rB α p).toNat; rw [eb]
    rw [pit_pos eb] at hq
    rw [eH] at D'
    have RQ : RR σ q (rB α p) (rS α p) (rN α p) (rH α p) (rD α q) := by rw [eH, eS, eN, ← eb] at R'; exact R'
    refine ⟨fun e1 => ?_, fun e1 => ?_⟩
    · rw [pit_pos (by omega)] at hq
      have lp : ∀ (m : Nat) (k : Int) (υ : ASt), 0 ≤ k → k + m = rH α p → Fr (fun a _ => a ≠ 80) σ υ → (∀ j : Int, 0 ≤ j → j < k → gI υ 80 j = sd α p q j ∧ sd α p q j ≤ 99) → Wx K_X8_sum (QI Q) 149 [(0, .ref 72), (1, .int (iI p)), (2, .int (iI q)), (3, .int (iI t)), (5, .int (iI (rB α p))), (6, .int (iI k))] [] υ := by
        intro m
        induction m with
        | zero =>
          intro k υ k0 hk A2 hj
          have M2 := R.2.1.fr A2 (fun a j x y => by omega)
          have G : ∀ j : Int, 0 ≤ j → j < rH α p → rD α p j + rD α q j ≤ 99 := fun j a c => (hj j a (by omega)).2
          have D2 : DOK (sd α p q) (rH α p) := by
            refine ⟨fun j k0 k1 => ?_, fun j z => ?_⟩
            · have g1 := G j k0 k1
              have g2 := D.1 j k0 k1
              have g3 := D'.1 j k0 k1
              unfold sd; omega
            · unfold sd; rw [D.2 j z, D'.2 j z]; rfl
          rw [pit_pos G] at hq
          refine bX8_sum_149 (by omega) ⟨⟨b0, by omega⟩, by rw [M2.2.1]; omega, fun _ => ?_, fun z => by rw [M2.2.1] at z; omega⟩
          exact sp_mfill W C (A2.mono (fun a j x => x.1)) t0 t6 b0 (by omega) D2 (fun j a c => (hj j a (by have : j < rH α p := c; omega)).1) hq
        | succ m ih =>
          intro k υ k0 hk A2 hj
          have M2 := R.2.1.fr A2 (fun a j x y => by omega)
          have R2 := R.fr A2 h43 (fun a j x y => by omega) (by omega) (fun j _ _ => by omega)
          have RQ2 := RQ.fr A2 h43 (fun a j x y => by omega) (by omega) (fun j _ _ => by omega)
          have d1 := D.all k
          have d2 := D'.all k
          refine bX8_sum_149 (by omega) ⟨⟨b0, by omega⟩, by rw [M2.2.1]; omega, fun z => by rw [M2.2.1] at z; omega, fun _ => R2.at B D.1 p0 p6 k0 (by omega) (RQ2.at B D'.1 q0 q6 k0 (by omega) ⟨⟨k0, by omega⟩, ?_⟩)⟩
          rw [gI_self]
          refine ⟨by omega, fun g => ih (k + 1) _ (by omega) (by omega) (A2.trans (fr_sI (by omega) (fun a j x => by omega))) (fun j a c => ?_), fun g => ?_⟩
          · by_cases z : j = k
            · rw [z, gI_self]; exact ⟨rfl, g⟩
            · rw [gI_ne _ _ _ z]; exact hj j a (by omega)
          · rw [pit_neg (fun z => by have := z k k0 (by omega); omega)] at hq
            have A3 : Fr (fun a _ => a ≠ 80) σ (sI υ 80 k (rD α p k + rD α q k)) := A2.trans (fr_sI (by omega) (fun a j x => by omega))
            exact hq _ A3.1 (C.wk W (A3.mono (fun a j x => x.1)))
      exact lp (rH α p) 0 σ (by omega) (by omega) Fr.rf (fun j a c => by omega)
    · rw [pit_neg (by omega)] at hq
      have v1 := va_bound B D.1 (Nat.le_refl _)
      have v2 := va_bound B D'.1 (Nat.le_refl _)
      have h1 := B.top
      have h2 := wo_pos B.s1 (rH α p)
      have et : rTop α p = wo (rS α p) (rH α p) - 1 := rfl
      refine sp_mvalueOf R B D.1 p0 p6 b0 b2 (sp_mvalueOf RQ B D'.1 q0 q6 b0 b2 ⟨⟨b0, by omega⟩, ?_⟩)
      have ev : va (rS α p) (rD α q) (rH α p) = rV α q := by unfold rV; rw [eS, eH]
      rw [ev] at v2 ⊢
      rw [R.2.1.2.2.1]
      refine sp_comes v1.1 v1.2 v2.1 v2.2 (by omega) w4 (by omega) (by omega) (fun x i g1 g2 => ?_)
      rw [R.2.1.2.2.1]
      refine sp_in i (by omega) (by omega) (fun u u2 => ?_) (fun u => ?_)
      · have g3 := g1.mp ⟨u, u2⟩
        have g4 : x = rk (rV α p) (rV α q) w := g2 ⟨u, u2⟩
        rw [← g4, pit_pos (by omega)] at hq
        refine sp_makes b0 b2 B R.2.1 u i (fun τ A1 e3 => ?_)
        exact sp_mfill W C (A1.mono (fun a j x => x.1)) t0 t6 b0 (by omega) (gd_DOK B u (by omega)) e3 hq
      · rw [pit_neg (fun z => by have := g1.mpr z; omega)] at hq
        exact hq σ Ag.rf C
  · rw [pit_neg e] at hq
    exact hq σ Ag.rf C
theorem M_like {σ : ASt} {α : AB} (W : WF α) (C : MAll σ α) {p q w : Int} (hp : i32 p) (hq0 : i32 q) (hw : i32 w) {Q : Int → ASt → Prop} (hq : Q (oLike α p q w) σ) : EvI K_X8_like [.ref 72, .int (iI p), .int (iI q), .int (iI w)] σ Q := by
  have bad : ¬ (okR p ∧ okR q ∧ 0 ≤ w ∧ w ≤ 1) → Q (-2) σ := fun z => by
    unfold oLike at hq
    rw [pit_neg z] at hq
    exact hq
  refine eX8_like hw (sp_mReel hp (fun p0 p6 => ?_) (fun z => bad (by omega)))
  refine sp_mReel hq0 (fun q0 q6 => ?_) (fun z => bad (by omega))
  refine sp_in (by omega) (by omega) (by omega) (fun w0 w4 => ?_) (fun z => bad (by omega))
  clear bad
  unfold oLike at hq
  rw [pit_pos (by omega)] at hq
  refine sp_mEmpty W C.2.1 p0 p6 (fun hb => by rw [pit_pos (Or.inl hb)] at hq; exact hq) (fun hb b0 b2 => ?_)
  refine sp_mEmpty W C.2.1 q0 q6 (fun hb' => by rw [pit_pos (Or.inr hb')] at hq; exact hq) (fun hb' b0' b2' => ?_)
  rw [pit_neg (by omega)] at hq
  obtain ⟨B, D, R⟩ := mreel_facts W C p0 p6 b0 b2
  obtain ⟨B', D', R'⟩ := mreel_facts W C q0 q6 b0' b2'
  have h43 := B.h43
  refine ⟨fun e => ⟨⟨p0, p6⟩, ⟨q0, q6⟩, ?_⟩, fun e => ?_⟩
  · rw [pit_neg e] at hq
    rw [R.1, R'.1]
    refine ⟨by omega, by omega, fun f => ?_, fun f => ?_⟩
    · rw [pit_neg (by omega)] at hq
      exact bX8_like_95 (by omega) (by omega) (R.high B p0 p6 b0 b2 ⟨fun _ => ⟨fun _ => hq, fun z => by omega⟩, fun _ => ⟨fun _ => ⟨fun _ => hq, fun z => by omega⟩, fun z => by omega⟩⟩)
    · have eH : rH α q = rH α p := by unfold rH; show aH α (rB α q).toNat = aH α (rB α p).toNat; rw [f]
      rw [eH] at D' R' B'
      have no : ∀ k : Int, 0 ≤ k → k < rH α p → rD α p k ≠ rD α q k → Q 0 σ := fun k k0 k1 g => by
        rw [pit_neg (fun z => g (by have := ct_zero' z.2 k.toNat (by omega); rw [Int.toNat_of_nonneg k0] at this; omega))] at hq
        exact hq
      have lp : ∀ (m : Nat) (k : Int), 0 ≤ k → k + m = rH α p → (∀ j : Int, 0 ≤ j → j < k → rD α p j = rD α q j) → Wx K_X8_like (QI Q) 95 [(0, .ref 72), (1, .int (iI p)), (2, .int (iI q)), (4, .int (iI 1)), (5, .int (iI k))] [] σ := by
        intro m
        induction m with
        | zero =>
          intro k k0 hk hj
          refine bX8_like_95 (by omega) (by omega) (R.high B p0 p6 b0 b2 ⟨fun _ => ⟨fun z => by omega, fun _ => ?_⟩, fun z => by omega⟩)
          have hz : ct (fun k => rD α p k - rD α q k) 43 = 0 := ct_zero (fun i hi => by
            show rD α p i - rD α q i = 0
            by_cases z : (i : Int) < rH α p
            · have := hj i (by omega) (by omega); omega
            · have g1 := D.2 i (Or.inr (by omega))
              have g2 := D'.2 i (Or.inr (by omega))
              omega)
          rw [pit_pos ⟨f, hz⟩] at hq
          exact hq
        | succ m ih =>
          intro k k0 hk hj
          refine bX8_like_95 (by omega) (by omega) (R.high B p0 p6 b0 b2 ⟨fun z => by omega, fun _ => ⟨fun z => by omega, fun _ => R.at B D.1 p0 p6 k0 (by omega) (R'.at B' D'.1 q0 q6 k0 (by omega) ⟨fun g => ?_, fun g => ?_⟩)⟩⟩)
          · have fin := no k k0 (by omega) g
            exact bX8_like_95 (by omega) (by omega) (R.high B p0 p6 b0 b2 ⟨fun _ => ⟨fun _ => fin, fun z => by omega⟩, fun _ => ⟨fun _ => ⟨fun _ => fin, fun z => by omega⟩, fun z => by omega⟩⟩)
          · refine ih (k + 1) (by omega) (by omega) (fun j a c => ?_)
            by_cases z : j = k
            · rw [z]; exact g
            · exact hj j a (by omega)
      exact lp (rH α p) 0 (by omega) (by omega) (fun j a c => by omega)
  · rw [pit_pos e] at hq
    refine sp_mvalueOf R B D.1 p0 p6 b0 b2 (sp_mvalueOf R' B' D'.1 q0 q6 b0' b2' ⟨fun g => ?_, fun g => ?_⟩)
    · rw [pit_neg (show ¬ rV α p = rV α q from g)] at hq; exact hq
    · rw [pit_pos (show rV α p = rV α q from g)] at hq; exact hq
theorem M_crossed {σ : ASt} {α : AB} (W : WF α) (C : MAll σ α) {b c v : Int} (hb : i32 b) (hc : i32 c) (hv : i64 v) {Q : Int → ASt → Prop} (hq : ∀ τ, MO σ τ → MAll τ α → Q (oCrossed α b c v) τ) : EvI K_X8_crossed [.ref 72, .int (iI b), .int (iI c), .long (lI v)] σ Q := by
  have bad : ¬ (okB b ∧ okB c ∧ 0 ≤ v) → Q (-2) σ := fun z => by
    unfold oCrossed at hq
    rw [pit_neg z] at hq
    exact hq σ Ag.rf C
  refine eX8_crossed hv (sp_mBase hb (fun b0 b3 => sp_mBase hc (fun c0 c3 => ⟨fun v0 => ⟨⟨b0, b3⟩, ?_⟩, fun v0 => bad (by omega)⟩) (fun z => bad (by omega))) (fun z => bad (by omega)))
  clear bad
  obtain ⟨B, M⟩ := mbase_facts W C b0 b3
  obtain ⟨B', M'⟩ := mbase_facts W C c0 c3
  have h1 := B.top
  have h2 := wo_pos B.s1 (aH α b.toNat)
  have h1' := B'.top
  have h2' := wo_pos B'.s1 (aH α c.toNat)
  have h43 := B.h43
  have h43' := B'.h43
  unfold oCrossed at hq
  rw [pit_pos ⟨by omega, by omega, v0⟩] at hq
  rw [M.2.2.1, M'.2.2.1]
  refine ⟨by omega, fun u => ?_, fun u => ⟨⟨c0, c3⟩, by omega, fun u' => ?_, fun u' => ?_⟩⟩
  · rw [pit_pos (Or.inl u)] at hq; exact hq σ Ag.rf C
  · rw [pit_neg (by omega)] at hq
    have G := gd_DOK B v0 (by omega)
    have G' := gd_DOK B' v0 (by omega)
    refine sp_makes b0 (by omega) B M v0 hv (fun τ A1 g1 => ?_)
    have lp2 : ∀ (υ : ASt), Fr WK σ υ → (∀ k : Int, 0 ≤ k → k < aH α b.toNat → gI υ 90 k = gd (aS α b.toNat) (aH α b.toNat) v k) → (∀ k : Int, 0 ≤ k → k < aH α c.toNat → gI υ 80 k = gd (aS α c.toNat) (aH α c.toNat) v k) → ∀ (m : Nat) (k : Int), 0 ≤ k → k + m = 43 → k ≤ aH α b.toNat → k ≤ aH α c.toNat → Wx K_X8_crossed (QI Q) 100 [(0, .ref 72), (1, .int (iI b)), (2, .int (iI c)), (5, .int (iI (k - ct (xe α b c v) k.toNat))), (6, .int (iI k))] [] υ := by
      intro υ A2 e1 e2 m
      have C2 := C.wk W A2
      have Mb := (mbase_facts W C2 b0 b3).2
      have Mc := (mbase_facts W C2 c0 c3).2
      have fin : ∀ k : Int, 0 ≤ k → k ≤ 43 → (k = aH α b.toNat ∨ k = aH α c.toNat) → Q (k - ct (xe α b c v) k.toNat) υ := fun k k0 k43 hk => by
        have := hq υ A2.1 C2
        have e := ct_ones (f := xe α b c v) (m := k.toNat) (n := 43) (by omega) (fun i a c => by unfold xe; rw [if_neg (by omega)]; omega)
        rw [e] at this
        rw [show (43 : Int) - (ct (xe α b c v) k.toNat + (((43 : Nat) : Int) - (k.toNat : Int))) = k - ct (xe α b c v) k.toNat by omega] at this
        exact this
      induction m with
      | zero =>
        intro k k0 hk k1 k2
        have hh := ct_b (xe α b c v) k.toNat
        exact bX8_crossed_100 (by omega) (by omega) ⟨⟨b0, b3⟩, by rw [Mb.2.1]; omega, fun _ => fin k k0 (by omega) (by omega), fun z => by rw [Mb.2.1] at z; omega⟩
      | succ m ih =>
        intro k k0 hk k1 k2
        have hh := ct_b (xe α b c v) k.toNat
        refine bX8_crossed_100 (by omega) (by omega) ⟨⟨b0, b3⟩, by rw [Mb.2.1]; omega, fun z => fin k k0 (by omega) (by rw [Mb.2.1] at z; omega), fun z => ⟨⟨c0, c3⟩, by rw [Mc.2.1]; omega, fun z2 => fin k k0 (by omega) (by rw [Mc.2.1] at z2; omega), fun z2 => ⟨⟨k0, by omega⟩, ?_⟩⟩⟩
        rw [Mb.2.1] at z
        rw [Mc.2.1] at z2
        rw [e1 k k0 z, e2 k k0 z2]
        have q1 := G.all k
        have q2 := G'.all k
        have nx := ih (k + 1) (by omega) (by omega) (by omega) (by omega)
        rw [ct_i k0] at nx
        have ek : xe α b c v k = gd (aS α b.toNat) (aH α b.toNat) v k - gd (aS α c.toNat) (aH α c.toNat) v k := if_pos ⟨z, z2⟩
        refine ⟨by omega, by omega, fun w => ?_, fun w => ?_⟩
        · rw [if_neg (by omega), show k + 1 - (ct (xe α b c v) k.toNat + 1) = k - ct (xe α b c v) k.toNat + 0 by omega] at nx
          exact nx
        · rw [if_pos (by omega), show k + 1 - (ct (xe α b c v) k.toNat + 0) = k - ct (xe α b c v) k.toNat + 1 by omega] at nx
          exact nx
    have lp1 : ∀ (m : Nat) (k : Int) (υ : ASt), 0 ≤ k → k + m = aH α b.toNat → Fr (fun a _ => a ≠ 90) τ υ → (∀ j : Int, 0 ≤ j → j < k → gI υ 90 j = gd (aS α b.toNat) (aH α b.toNat) v j) → Wx K_X8_crossed (QI Q) 57 [(0, .ref 72), (1, .int (iI b)), (2, .int (iI c)), (3, .long (lI v)), (5, .int (iI k))] [] υ := by
      intro m
      induction m with
      | zero =>
        intro k υ k0 hk A2 hj
        have A3 : Fr (fun a _ => a ≠ 80 ∧ a ≠ 90) σ υ := (A1.mono (fun a j x => x.1)).trans (A2.mono (fun a j x => x.2))
        have Mb := M.fr A3 (fun a j x y => by omega)
        have Mc := M'.fr A3 (fun a j x y => by omega)
        refine bX8_crossed_57 (by omega) ⟨⟨b0, b3⟩, by rw [Mb.2.1]; omega, fun _ => ?_, fun z => by rw [Mb.2.1] at z; omega⟩
        refine sp_makes c0 (by omega) B' Mc v0 hv (fun ω A4 g2 => ?_)
        exact lp2 ω ((A3.mono (fun a j x => ⟨x.1, fun z => x.2.1 ⟨by omega, by omega⟩⟩)).trans (A4.mono (fun a j x => x.1))) (fun j a d => (A4.I (by omega)).trans (hj j a (by omega))) g2 43 0 (by omega) (by omega) (by omega) (by omega)
      | succ m ih =>
        intro k υ k0 hk A2 hj
        have A3 : Fr (fun a _ => a ≠ 80 ∧ a ≠ 90) σ υ := (A1.mono (fun a j x => x.1)).trans (A2.mono (fun a j x => x.2))
        have Mb := M.fr A3 (fun a j x y => by omega)
        refine bX8_crossed_57 (by omega) ⟨⟨b0, b3⟩, by rw [Mb.2.1]; omega, fun z => by rw [Mb.2.1] at z; omega, fun _ => ⟨⟨k0, by omega⟩, ih (k + 1) _ (by omega) (by omega) (A2.trans (fr_sI (by omega) (fun a j x => by omega))) (fun j a d => ?_)⟩⟩
        by_cases z : j = k
        · rw [z, gI_self, A2.I (by omega)]; exact g1 k k0 (by omega)
        · rw [gI_ne _ _ _ z]; exact hj j a (by omega)
    exact lp1 (aH α b.toNat) 0 τ (by omega) (by omega) Fr.rf (fun j a d => by omega)
  · rw [pit_pos (Or.inr u')] at hq; exact hq σ Ag.rf C
