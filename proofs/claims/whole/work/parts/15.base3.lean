/-! a base told: its row of steps, its worths -/
def lf (v : Int) : Nat → Int
  | 0 => v
  | j + 1 => lf v j / 10
theorem lf_nn {v : Int} (h : 0 ≤ v) : ∀ j, 0 ≤ lf v j
  | 0 => h
  | j + 1 => Int.ediv_nonneg (lf_nn h j) (by omega)
theorem lf_le {v : Int} (h : 0 ≤ v) : ∀ j, lf v j ≤ v
  | 0 => Int.le_refl _
  | j + 1 => by
    have h1 := lf_le h j
    have h2 := lf_nn h j
    show lf v j / 10 ≤ v
    omega
/-- n figures, none of them 0 -/
def rowP (n row : Int) : Prop := 1 ≤ n ∧ n ≤ 8 ∧ 0 ≤ row ∧ (∀ j : Nat, (j : Int) < n → lf row j % 10 ≠ 0) ∧ lf row n.toNat = 0
/-- the step of place k -/
def stf (n row k : Int) : Int := lf row (n - 1 - k % n).toNat % 10
theorem stf_b {n row : Int} (R : rowP n row) {k : Int} (_ : 0 ≤ k) : 1 ≤ stf n row k ∧ stf n row k ≤ 9 := by
  obtain ⟨r1, r2, r3, r4, r5⟩ := R
  have h1 := Int.emod_nonneg k (show n ≠ 0 by omega)
  have h2 := Int.emod_lt_of_pos k (show 0 < n by omega)
  have h3 := r4 (n - 1 - k % n).toNat (by omega)
  unfold stf
  omega
theorem stf_per {n row : Int} (k : Int) : stf n row (k + n) = stf n row k := by
  unfold stf
  rw [Int.add_emod_right]
theorem sp_isRowOfSteps {n row : Int} {σ : ASt} {QT QF : ASt → Prop} (hn : i32 n) (hr : i32 row) (hT : rowP n row → QT σ) (hF : ¬ rowP n row → QF σ) : EvZ K_X0_isRowOfSteps [.int (iI n), .int (iI row)] σ QT QF := by
  refine eX0_isRowOfSteps hr ?_
  refine sp_isWithin hn (by omega) (by omega) (fun a1 a2 => ⟨fun a3 => ?_, fun q => hF (fun R => by have := R.2.2.1; omega)⟩) (fun q => hF (fun R => by have := R.1; have := R.2.1; omega))
  have lp : ∀ (m : Nat) (j : Nat), j + m = n.toNat → (∀ i : Nat, i < j → lf row i % 10 ≠ 0) → Wx K_X0_isRowOfSteps (QZ QT QF) 20 [(0, .int (iI n)), (2, .int (iI (lf row j))), (3, .int (iI (j : Int)))] [] σ := by
    intro m
    induction m with
    | zero =>
      intro j hj hl
      have b1 := lf_nn a3 j
      have b2 := lf_le a3 j
      refine bX0_isRowOfSteps_20 hn (by omega) (by omega) ⟨fun _ => ⟨fun q => hF (fun R => q ?_), fun q => hT ⟨a1, a2, a3, fun i hi => hl i (by omega), ?_⟩⟩, fun q => by omega⟩
      · have := R.2.2.2.2
        rwa [show n.toNat = j by omega] at this
      · rwa [show n.toNat = j by omega]
    | succ m ih =>
      intro j hj hl
      have b1 := lf_nn a3 j
      have b2 := lf_le a3 j
      have e1 : Int.tmod (lf row j) 10 = lf row j % 10 := Int.tmod_eq_emod_of_nonneg b1
      have e2 : Int.tdiv (lf row j) 10 = lf row j / 10 := Int.tdiv_eq_ediv_of_nonneg b1
      refine bX0_isRowOfSteps_20 hn (by omega) (by omega) ⟨fun q => by omega, fun _ => ?_⟩
      rw [e1, e2]
      refine ⟨by omega, fun q => ?_, fun q => hF (fun R => R.2.2.2.1 j (by omega) q)⟩
      refine ih (j + 1) (by omega) (fun i hi => ?_)
      by_cases e : i = j
      · rw [e]; exact q
      · exact hl i (by omega)
  exact lp n.toNat 0 (by omega) (fun i hi => by omega)
theorem sp_makeWorths {o : Nat} (ho : shp o = (0, 0, 0)) {s : Int → Int} {n : Int} {σ : ASt} {Q : ASt → Prop} (n1 : 1 ≤ n) (n8 : n ≤ 8) (sb : ∀ k : Int, 0 ≤ k → 1 ≤ s k ∧ s k ≤ 9) (sp : ∀ k : Int, 0 ≤ k → s (k + n) = s k) (hs : ∀ k : Int, 0 ≤ k → k < 43 → gI σ (o + 6) k = s k) (hq : ∀ (h : Nat) (τ : ASt), BOK s n h → Ag (fun b => b ≠ o ∧ b ≠ o + 12) σ τ → (∀ j : Int, j ≠ 4 → gI τ o j = gI σ o j) → gI τ o 4 = h → gL τ o 5 = wo s h - 1 → (∀ k : Int, 0 ≤ k → k < h → gL τ (o + 12) k = wo s k.toNat) → Q τ) : EvV K_X0_makeWorths [.ref o] σ Q := by
  have s1 : ∀ k : Int, 0 ≤ k → 1 ≤ s k := fun k hk => (sb k hk).1
  have hA0 : ∀ {τ : ASt}, Ag (fun b => b ≠ o ∧ b ≠ o + 12) σ τ → ∀ k : Int, 0 ≤ k → k < 43 → gI τ (o + 6) k = s k := fun hA k a b => (hA.I (by constructor <;> omega) k).trans (hs k a b)
  have done : ∀ (j : Nat) (τ : ASt), 1 ≤ j → 1000000000 < wo s j → Ag (fun b => b ≠ o ∧ b ≠ o + 12) σ τ → (∀ i : Int, i ≠ 4 → gI τ o i = gI σ o i) → gI τ o 4 = j → (∀ i : Nat, i < j → wo s i ≤ 1000000000) → (∀ k : Int, 0 ≤ k → k < j → gL τ (o + 12) k = wo s k.toNat) → Q (sL τ o 5 (wo s j - 1)) := fun j τ j1 hw hA hI h4 hle hL =>
    hq j _ ⟨n1, n8, sb, sp, j1, hle, hw⟩ (hA.trans (ag_sL (fun b hb => hb.1))) hI h4 (gL_self _ _ _ _) (fun k a b => by rw [gL_na _ _ _ _ (by omega)]; exact hL k a b)
  have lp : ∀ (m : Nat) (j : Nat) (τ : ASt), j + m = 43 → Ag (fun b => b ≠ o ∧ b ≠ o + 12) σ τ → (∀ i : Int, i ≠ 4 → gI τ o i = gI σ o i) → (1 ≤ j → gI τ o 4 = j) → (∀ i : Nat, i < j → wo s i ≤ 1000000000) → (∀ k : Int, 0 ≤ k → k < j → gL τ (o + 12) k = wo s k.toNat) → wo s j ≤ 10000000000 → Wx K_X0_makeWorths (QV Q) 7 [(0, .ref o), (1, .long (lI (if j = 0 then 1 else wo s (j - 1)))), (3, .long (lI (wo s j))), (5, .int (iI (j : Int)))] [] τ := by
    intro m
    induction m with
    | zero =>
      intro j τ hj hA hI h4 hle hL hw
      have p1 := wo_pos s1 j
      have f1 := (wo_fb s1 43).1
      have f2 := fb_43
      have e : j = 43 := by omega
      refine bX0_makeWorths_7 ho (by omega) (by omega) ⟨fun _ => done j τ (by omega) (by rw [e]; omega) hA hI (h4 (by omega)) hle hL, fun q => by omega⟩
    | succ m ih =>
      intro j τ hj hA hI h4 hle hL hw
      have p1 := wo_pos s1 j
      refine bX0_makeWorths_7 ho (by omega) (by omega) ⟨fun q => by omega, fun _ => ⟨fun q => ?_, fun q => ⟨⟨by omega, by omega⟩, ?_⟩⟩⟩
      · refine done j τ ?_ q hA hI (h4 ?_) hle hL
        · rcases Nat.eq_zero_or_pos j with z | z
          · rw [z] at q; simp only [wo] at q; omega
          · exact z
        · rcases Nat.eq_zero_or_pos j with z | z
          · rw [z] at q; simp only [wo] at q; omega
          · exact z
      · have hA1 : Ag (fun b => b ≠ o ∧ b ≠ o + 12) σ (sI (sL τ (o + 12) (j : Int) (wo s j)) o 4 ((j : Int) + 1)) := (hA.trans (ag_sL (fun b hb => hb.2))).trans (ag_sI (fun b hb => hb.1))
        have e1 : gI (sI (sL τ (o + 12) (j : Int) (wo s j)) o 4 ((j : Int) + 1)) (o + 6) (j : Int) = s j := hA0 hA1 j (by omega) (by omega)
        have sj := sb j (by omega)
        rw [e1]
        refine ⟨by omega, ?_⟩
        have e2 : s j * wo s j + (if j = 0 then 1 else wo s (j - 1)) = wo s (j + 1) := by
          by_cases z : j = 0
          · subst z
            rw [if_pos rfl]
            show s 0 * 1 + 1 = s 0 + 1
            omega
          · rw [if_neg z, wo_step j (by omega)]
        have e3 : wo s j = if j + 1 = 0 then 1 else wo s (j + 1 - 1) := by rw [if_neg (by omega), Nat.add_sub_cancel]
        have e4 : (j : Int) + 1 = ((j + 1 : Nat) : Int) := by omega
        have b1 : wo s (j + 1) ≤ 10000000000 := by
          rw [← e2]
          have := Int.mul_le_mul sj.2 q (by omega) (by omega)
          by_cases z : j = 0
          · rw [if_pos z]; omega
          · rw [if_neg z]
            have := hle (j - 1) (by omega)
            omega
        rw [e2]
        have key := ih (j + 1) (sI (sL τ (o + 12) (j : Int) (wo s j)) o 4 ((j : Int) + 1)) (by omega) hA1 (fun i hi => by
          rw [gI_ne _ _ _ hi]
          exact hI i hi) (fun _ => by rw [gI_self]; omega) (fun i hi => by
          by_cases z : i = j
          · rw [z]; exact q
          · exact hle i (by omega)) (fun k a b => by
          rw [gL_sI]
          by_cases z : k = (j : Int)
          · rw [z, gL_self, Int.toNat_natCast]
          · rw [gL_ne _ _ _ z]; exact hL k a (by omega)) b1
        rw [← e3, ← e4] at key
        exact key
  exact eX0_makeWorths ho (lp 43 0 σ (by omega) Ag.rf (fun _ _ => rfl) (fun q => by omega) (fun i hi => by omega) (fun k a b => by omega) (by simp [wo]))
theorem sp_tell {o : Nat} (ho : shp o = (0, 0, 0)) {n row : Int} (hr : i32 row) (R : rowP n row) {σ : ASt} {Q : ASt → Prop} (hq : ∀ (h : Nat) (τ : ASt), BOK (stf n row) n h → Ag (fun b => b ≠ o ∧ b ≠ o + 6 ∧ b ≠ o + 12) σ τ → CB τ o (stf n row) n h → gI τ o 0 = gI σ o 0 → Q τ) : EvV K_X0_tell [.ref o, .int (iI n), .int (iI row)] σ Q := by
  obtain ⟨r1, r2, r3, r4, r5⟩ := id R
  refine eX0_tell ho (by omega) ⟨by split <;> omega, ?_⟩
  have en : (if (1 : Int) < (if (8 : Int) < n then 8 else n) then (if (8 : Int) < n then 8 else n) else 1) = n := by
    rw [if_neg (show ¬ (8 : Int) < n by omega)]
    split <;> omega
  rw [en, gI_self]
  -- the places from n on
  have lp2 : ∀ (m : Nat) (k : Int) (τ : ASt), n ≤ k → k + m = 43 → Ag (fun b => b ≠ o ∧ b ≠ o + 6) σ τ → (∀ j : Int, j ≠ 3 → gI τ o j = gI σ o j) → gI τ o 3 = n → (∀ j : Int, 0 ≤ j → j < k → gI τ (o + 6) j = stf n row j) → Wx K_X0_tell (QV Q) 57 [(0, .ref o), (4, .int (iI k))] [] τ := by
    intro m
    induction m with
    | zero =>
      intro k τ k0 hk hA hI h3 hj
      refine bX0_tell_57 ho (by omega) ⟨fun _ => ?_, fun q => by omega⟩
      refine sp_makeWorths ho r1 r2 (fun j hj0 => stf_b R hj0) (fun j _ => stf_per j) (fun j a b => hj j a (by omega)) (fun h υ B hA2 hI2 h4 h5 hL => ?_)
      refine hq h υ B ((hA.mono (fun b hb => ⟨hb.1, hb.2.1⟩)).trans (hA2.mono (fun b hb => ⟨hb.1, hb.2.2⟩))) ⟨(hI2 3 (by omega)).trans h3, h4, h5, fun j a b => (hA2.I (by constructor <;> omega) j).trans (hj j a (by omega)), hL⟩ ((hI2 0 (by omega)).trans (hI 0 (by omega)))
    | succ m ih =>
      intro k τ k0 hk hA hI h3 hj
      refine bX0_tell_57 ho (by omega) ⟨fun q => by omega, fun _ => ?_⟩
      rw [h3]
      refine ⟨⟨by omega, by omega⟩, ⟨by omega, by omega⟩, ?_⟩
      refine ih (k + 1) _ (by omega) (by omega) (hA.trans (ag_sI (fun b hb => hb.2))) (fun j hj3 => by rw [gI_na _ _ _ _ (by omega)]; exact hI j hj3) (by rw [gI_na _ _ _ _ (by omega)]; exact h3) (fun j a b => ?_)
      by_cases e : j = k
      · rw [e, gI_self, hj (k - n) (by omega) (by omega)]
        have := stf_per (n := n) (row := row) (k - n)
        rw [show k - n + n = k by omega] at this
        exact this.symm
      · rw [gI_ne _ _ _ e]; exact hj j a (by omega)
  -- the figures, the last first
  have lp1 : ∀ (m : Nat) (j : Nat) (τ : ASt), (j : Int) + m = n → Ag (fun b => b ≠ o ∧ b ≠ o + 6) σ τ → (∀ i : Int, i ≠ 3 → gI τ o i = gI σ o i) → gI τ o 3 = n → (∀ i : Int, (m : Int) ≤ i → i < n → gI τ (o + 6) i = stf n row i) → Wx K_X0_tell (QV Q) 24 [(0, .ref o), (3, .int (iI (lf row j))), (4, .int (iI ((m : Int) - 1)))] [] τ := by
    intro m
    induction m with
    | zero =>
      intro j τ hj hA hI h3 hi
      have b1 := lf_nn r3 j
      have b2 := lf_le r3 j
      refine bX0_tell_24 ho (by omega) (by omega) ⟨fun _ => ?_, fun q => by omega⟩
      rw [h3]
      exact lp2 (43 - n).toNat n τ (Int.le_refl _) (by omega) hA hI h3 (fun i a b => hi i (by omega) b)
    | succ m ih =>
      intro j τ hj hA hI h3 hi
      have b1 := lf_nn r3 j
      have b2 := lf_le r3 j
      have e1 : Int.tmod (lf row j) 10 = lf row j % 10 := Int.tmod_eq_emod_of_nonneg b1
      have e2 : Int.tdiv (lf row j) 10 = lf row j / 10 := Int.tdiv_eq_ediv_of_nonneg b1
      have e3 : ((m + 1 : Nat) : Int) - 1 = (m : Int) := by omega
      rw [e3]
      refine bX0_tell_24 ho (by omega) (by omega) ⟨fun q => by omega, fun _ => ⟨⟨by omega, by omega⟩, ?_⟩⟩
      rw [e1, e2]
      have e4 : (m : Int) + (-1) = (m : Int) - 1 := by omega
      rw [e4]
      refine ih (j + 1) _ (by omega) (hA.trans (ag_sI (fun b hb => hb.2))) (fun i hi3 => by rw [gI_na _ _ _ _ (by omega)]; exact hI i hi3) (by rw [gI_na _ _ _ _ (by omega)]; exact h3) (fun i a b => ?_)
      by_cases e : i = (m : Int)
      · rw [e, gI_self]
        unfold stf
        rw [Int.emod_eq_of_lt (a := (m : Int)) (b := n) (by omega) (by omega), show (n - 1 - (m : Int)).toNat = j by omega]
      · rw [gI_ne _ _ _ e]; exact hi i (by omega) b
  have := lp1 n.toNat 0 (sI σ o 3 n) (by omega) (ag_sI (fun b hb => hb.1)) (fun i hi => gI_ne _ _ _ hi) (gI_self _ _ _ _) (fun i a b => by omega)
  rw [show (n.toNat : Int) = n by omega] at this
  exact this
theorem sp_becomeLike {o c : Nat} (ho : shp o = (0, 0, 0)) (hc : shp c = (0, 0, 0)) (hne : c ≠ o) {s : Int → Int} {n : Int} {h : Nat} (B : BOK s n h) {σ : ASt} (C : CB σ c s n h) {Q : ASt → Prop} (hq : ∀ τ : ASt, Ag (fun b => b ≠ o ∧ b ≠ o + 6 ∧ b ≠ o + 12) σ τ → CB τ o s n h → gI τ o 0 = gI σ o 0 → Q τ) : EvV K_X0_becomeLike [.ref o, .ref c] σ Q := by
  have h43 := B.h43
  have n1 : o + 6 ≠ c := fun q => by have := sf_0_1 ho; rw [q, hc] at this; cases this
  have n2 : o + 12 ≠ c := fun q => by have := sf_0_2 ho; rw [q, hc] at this; cases this
  have n3 : c + 6 ≠ o := fun q => by have := sf_0_1 hc; rw [q, ho] at this; cases this
  have n4 : c + 12 ≠ o := fun q => by have := sf_0_2 hc; rw [q, ho] at this; cases this
  have n5 : c + 12 ≠ o + 6 := fun q => by have := sf_0_2 hc; rw [q, sf_0_1 ho] at this; cases this
  have n6 : c + 6 ≠ o + 12 := fun q => by have := sf_0_1 hc; rw [q, sf_0_2 ho] at this; cases this
  refine eX0_becomeLike ho hc ?_
  have hcc : ∀ (x y : Int), gI (sI σ o x y) c 4 = gI σ c 4 := fun x y => gI_na _ _ _ _ hne
  have hcc2 : ∀ (τ : ASt) (x y : Int), gL (sI τ o x y) c 5 = gL τ c 5 := fun τ x y => rfl
  rw [hcc, hcc2, hcc2, C.1, C.2.1, C.2.2.1]
  refine hq _ ?_ ⟨?_, ?_, ?_, ?_, ?_⟩ ?_
  · exact ((((ag_sI (fun b hb => hb.1)).trans (ag_sI (fun b hb => hb.1))).trans (ag_sL (fun b hb => hb.1))).trans (ag_cI (fun b hb => hb.2.1))).trans (ag_cL (fun b hb => hb.2.2))
  · rw [(ag_cL (P := fun b => b ≠ o + 12) (fun b hb => hb)).I (by omega), (ag_cI (P := fun b => b ≠ o + 6) (fun b hb => hb)).I (by omega), gI_sL, gI_ne _ _ _ (by omega), gI_self]
  · rw [(ag_cL (P := fun b => b ≠ o + 12) (fun b hb => hb)).I (by omega), (ag_cI (P := fun b => b ≠ o + 6) (fun b hb => hb)).I (by omega), gI_sL, gI_self]
  · rw [(ag_cL (P := fun b => b ≠ o + 12) (fun b hb => hb)).L (by omega), (ag_cI (P := fun b => b ≠ o + 6) (fun b hb => hb)).L (by omega), gL_self]
  · intro k a b
    rw [(ag_cL (P := fun b => b ≠ o + 12) (fun b hb => hb)).I (by omega), gI_cI, if_pos (by omega), gI_sL, gI_na _ _ _ _ n3, gI_na _ _ _ _ n3]
    rw [show (0 : Int) + (k - 0) = k by omega]
    exact C.2.2.2.1 k a b
  · intro k a b
    rw [gL_cL, if_pos (by omega), show (0 : Int) + (k - 0) = k by omega, (ag_cI (P := fun b => b ≠ o + 6) (fun b hb => hb)).L n5, gL_na _ _ _ _ n4]
    exact C.2.2.2.2 k a b
  · rw [(ag_cL (P := fun b => b ≠ o + 12) (fun b hb => hb)).I (by omega), (ag_cI (P := fun b => b ≠ o + 6) (fun b hb => hb)).I (by omega), gI_sL, gI_ne _ _ _ (by omega), gI_ne _ _ _ (by omega)]
