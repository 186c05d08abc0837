/-! ways: the reference's table of slots -/
/-- slots: each holds 0 or the place of an entry, plus 1; each entry stands where probing from its rest comes by -/
def HT (σ : ASt) (t : Int) : Prop := gI σ 72 19 = t ∧ 0 ≤ t ∧ (∀ p : Int, 0 ≤ p → p < 16384 → 0 ≤ gI σ 86 p ∧ gI σ 86 p ≤ t) ∧ (∀ p q : Int, 0 ≤ p → p < 16384 → 0 ≤ q → q < 16384 → gI σ 86 p = gI σ 86 q → gI σ 86 p ≠ 0 → p = q) ∧ (∀ e : Int, 0 ≤ e → e < t → ∃ d : Nat, d < 16384 ∧ gI σ 86 ((gL σ 87 e * 7919 + d) % 16384) = e + 1 ∧ ∀ i : Nat, i < d → gI σ 86 ((gL σ 87 e * 7919 + i) % 16384) ≠ 0)
abbrev LP8 : Nat → Int → Prop := fun a j => a ≠ 86 ∧ a ≠ 87 ∧ a ≠ 88 ∧ a ≠ 89 ∧ ¬ (a = 72 ∧ j = 19)
theorem sp_leaves {x y w t : Int} {σ : ASt} (x64 : i64 x) (w32 : i32 w) (H : HT σ t) (t1 : t ≤ 1300) (h87 : ∀ i : Int, 0 ≤ i → i < t → i64 (gL σ 87 i) ∧ i32 (gI σ 89 i)) {Q : ASt → Prop} (hold : ∀ (τ : ASt) (e : Int), 0 ≤ e → e < t → gL σ 87 e = x → Fr LP8 σ τ → HT τ t → (∀ i : Int, gL τ 87 i = gL σ 87 i) → (∀ i : Int, gL τ 88 i = if i = e then gL σ 88 i + y else gL σ 88 i) → (∀ i : Int, gI τ 89 i = if i = e ∧ w < gI σ 89 i then w else gI σ 89 i) → Q τ) (hnew : ∀ τ : ASt, (∀ i : Int, 0 ≤ i → i < t → gL σ 87 i ≠ x) → Fr LP8 σ τ → HT τ (t + 1) → (∀ i : Int, gL τ 87 i = if i = t then x else gL σ 87 i) → (∀ i : Int, gL τ 88 i = if i = t then y else gL σ 88 i) → (∀ i : Int, gI τ 89 i = if i = t then w else gI σ 89 i) → Q τ) : EvV K_X8_leaves [.ref 72, .long (lI x), .long (lI y), .int (iI w)] σ Q := by
  obtain ⟨ht, t0, hv, hi, hd⟩ := H
  have a1 : ∀ (τ : ASt) (i u j : Int), gI (sI τ 89 i u) 72 j = gI τ 72 j := fun τ i u j => gI_na _ _ _ _ (by omega)
  have a2 : ∀ (τ : ASt) (i u j : Int), gI (sI τ 86 i u) 89 j = gI τ 89 j := fun τ i u j => gI_na _ _ _ _ (by omega)
  have a3 : ∀ (τ : ASt) (i u j : Int), gI (sI τ 72 i u) 89 j = gI τ 89 j := fun τ i u j => gI_na _ _ _ _ (by omega)
  have lp : ∀ (f d : Nat), d + f = 16384 → (∀ i : Nat, i < d → gI σ 86 ((x * 7919 + i) % 16384) ≠ 0 ∧ gL σ 87 (gI σ 86 ((x * 7919 + i) % 16384) - 1) ≠ x) → Wx K_X8_leaves (QV Q) 12 [(0, .ref 72), (1, .long (lI x)), (3, .long (lI y)), (5, .int (iI w)), (6, .int (iI ((x * 7919 + d) % 16384)))] [] σ := by
    intro f
    induction f with
    | zero =>
      intro d hdf hno
      exfalso
      have := pigeon 1300 16384 (fun i => (gI σ 86 ((x * 7919 + (i : Int)) % 16384) - 1).toNat) (fun i hi' => by
        have g := (hno i (by omega)).1
        have g2 := hv ((x * 7919 + (i : Int)) % 16384) (by omega) (by omega)
        show (gI σ 86 ((x * 7919 + (i : Int)) % 16384) - 1).toNat < 1300
        omega) (fun i k hi' hk' e => by
        have e' : (gI σ 86 ((x * 7919 + (i : Int)) % 16384) - 1).toNat = (gI σ 86 ((x * 7919 + (k : Int)) % 16384) - 1).toNat := e
        have g := (hno i (by omega)).1
        have g' := (hno k (by omega)).1
        have g2 := hv ((x * 7919 + (i : Int)) % 16384) (by omega) (by omega)
        have g3 := hv ((x * 7919 + (k : Int)) % 16384) (by omega) (by omega)
        have := hi ((x * 7919 + (i : Int)) % 16384) ((x * 7919 + (k : Int)) % 16384) (by omega) (by omega) (by omega) (by omega) (by omega) g
        omega)
      omega
    | succ f ih =>
      intro d hdf hno
      have p0 : 0 ≤ (x * 7919 + (d : Int)) % 16384 ∧ (x * 7919 + (d : Int)) % 16384 < 16384 := by omega
      have vp := hv _ p0.1 p0.2
      refine bX8_leaves_12 w32 x64 ⟨p0, by omega, fun q => ⟨fun q2 => by omega, fun q2 => ?_⟩, fun q => ?_⟩
      · -- a free slot: a new entry
        rw [ht]
        simp only [gI_sL, gL_sI, a1, a2, a3, gI_self, gL_self, ht, Int.add_sub_cancel, Int.zero_add]
        have no : ∀ i : Int, 0 ≤ i → i < t → gL σ 87 i ≠ x := fun i i0 i1 e => by
          obtain ⟨d', d1, d2, d3⟩ := hd i i0 i1
          rw [e] at d2 d3
          rcases Nat.lt_trichotomy d' d with z | z | z
          · have := (hno d' z).2
            rw [d2, Int.add_sub_cancel] at this
            exact this e
          · rw [z, q2] at d2; omega
          · exact d3 d z q2
        have A0 : Fr LP8 σ (sI (sI (sI (sL (sL σ 87 t x) 88 t 0) 89 t w) 72 19 (t + 1)) 86 ((x * 7919 + (d : Int)) % 16384) (t + 1)) := ((((fr_sL (by omega) (fun a j x => by omega)).trans (fr_sL (by omega) (fun a j x => by omega))).trans (fr_sI (by omega) (fun a j x => by omega))).trans (fr_sI (by omega) (fun a j x => by omega))).trans (fr_sI (by omega) (fun a j x => by omega))
        -- whichever way the least is set, it is w
        have fin : Q (sI (sL (sI (sI (sI (sL (sL σ 87 t x) 88 t 0) 89 t w) 72 19 (t + 1)) 86 ((x * 7919 + (d : Int)) % 16384) (t + 1)) 88 t y) 89 t w) := by
          refine hnew _ no ((A0.trans (fr_sL (by omega) (fun a j x => by omega))).trans (fr_sI (by omega) (fun a j x => by omega))) ?_ (fun i => ?_) (fun i => ?_) (fun i => ?_)
          · have e86 : ∀ p, gI (sI (sL (sI (sI (sI (sL (sL σ 87 t x) 88 t 0) 89 t w) 72 19 (t + 1)) 86 ((x * 7919 + (d : Int)) % 16384) (t + 1)) 88 t y) 89 t w) 86 p = if p = (x * 7919 + (d : Int)) % 16384 then t + 1 else gI σ 86 p := fun p => by
              rw [gI_na _ _ _ _ (by omega), gI_sL, gI_sI]
              by_cases z : p = (x * 7919 + (d : Int)) % 16384
              · rw [if_pos ⟨rfl, z⟩, if_pos z]
              · rw [if_neg (fun g => z g.2), if_neg z, gI_na _ _ _ _ (by omega), gI_na _ _ _ _ (by omega), gI_sL, gI_sL]
            have e87 : ∀ p, gL (sI (sL (sI (sI (sI (sL (sL σ 87 t x) 88 t 0) 89 t w) 72 19 (t + 1)) 86 ((x * 7919 + (d : Int)) % 16384) (t + 1)) 88 t y) 89 t w) 87 p = if p = t then x else gL σ 87 p := fun p => by
              rw [gL_sI, gL_na _ _ _ _ (by omega), gL_sI, gL_sI, gL_sI, gL_na _ _ _ _ (by omega), gL_sL]
              by_cases z : p = t
              · rw [if_pos ⟨rfl, z⟩, if_pos z]
              · rw [if_neg (fun g => z g.2), if_neg z]
            refine ⟨?_, by omega, fun p p0 p1 => ?_, fun p q p0 p1 q0 q1 e ne => ?_, fun e e0 e1 => ?_⟩
            · rw [gI_na _ _ _ _ (by omega), gI_sL, gI_na _ _ _ _ (by omega), gI_self]
            · rw [e86]
              have := hv p p0 p1
              split <;> omega
            · rw [e86, e86] at e
              rw [e86] at ne
              have v1 := hv p p0 p1
              have v2 := hv q q0 q1
              by_cases z : p = (x * 7919 + (d : Int)) % 16384
              · by_cases z2 : q = (x * 7919 + (d : Int)) % 16384
                · omega
                · rw [if_pos z, if_neg z2] at e; omega
              · by_cases z2 : q = (x * 7919 + (d : Int)) % 16384
                · rw [if_neg z, if_pos z2] at e; omega
                · rw [if_neg z, if_neg z2] at e
                  rw [if_neg z] at ne
                  exact hi p q p0 p1 q0 q1 e ne
            · rw [e87]
              by_cases z : e = t
              · rw [if_pos z]
                refine ⟨d, by omega, by rw [e86, if_pos rfl, z], fun i hi' => ?_⟩
                rw [e86]
                split
                · omega
                · exact (hno i hi').1
              · rw [if_neg z]
                obtain ⟨d', d1, d2, d3⟩ := hd e e0 (by omega)
                refine ⟨d', d1, ?_, fun i hi' => ?_⟩
                · rw [e86, if_neg (fun g => by rw [g, q2] at d2; omega)]; exact d2
                · rw [e86]
                  split
                  · omega
                  · exact d3 i hi'
          · rw [gL_sI, gL_na _ _ _ _ (by omega), gL_sI, gL_sI, gL_sI, gL_na _ _ _ _ (by omega), gL_sL]
            by_cases z : i = t
            · rw [if_pos ⟨rfl, z⟩, if_pos z]
            · rw [if_neg (fun g => z g.2), if_neg z]
          · rw [gL_sI, gL_sL]
            by_cases z : i = t
            · rw [if_pos ⟨rfl, z⟩, if_pos z]
            · rw [if_neg (fun g => z g.2), if_neg z, gL_sI, gL_sI, gL_sI, gL_ne _ _ _ z, gL_na _ _ _ _ (by omega)]
          · rw [gI_sI]
            by_cases z : i = t
            · rw [if_pos ⟨rfl, z⟩, if_pos z]
            · rw [if_neg (fun g => z g.2), if_neg z, gI_sL, a2, a3, gI_ne _ _ _ z, gI_sL, gI_sL]
        refine ⟨⟨t0, by omega⟩, ⟨t0, by omega⟩, ⟨t0, by omega⟩, ⟨t0, by omega⟩, w32, fun _ => fin, fun q3 => by omega⟩
      · -- a slot that is taken
        have k0 : 0 ≤ gI σ 86 ((x * 7919 + (d : Int)) % 16384) - 1 := by omega
        refine ⟨⟨by omega, by omega⟩, (h87 _ k0 (by omega)).1, fun q2 => ?_, fun q2 => ?_⟩
        · -- its own
          refine ⟨fun _ => ?_, fun q3 => by omega⟩
          simp only [gI_sL]
          have A1 : Fr LP8 σ (sL σ 88 (gI σ 86 ((x * 7919 + (d : Int)) % 16384) - 1) (gL σ 88 (gI σ 86 ((x * 7919 + (d : Int)) % 16384) - 1) + y)) := fr_sL (by omega) (fun a j x => by omega)
          have fin : ∀ u : Int, (u = if w < gI σ 89 (gI σ 86 ((x * 7919 + (d : Int)) % 16384) - 1) then w else gI σ 89 (gI σ 86 ((x * 7919 + (d : Int)) % 16384) - 1)) → Q (sI (sL σ 88 (gI σ 86 ((x * 7919 + (d : Int)) % 16384) - 1) (gL σ 88 (gI σ 86 ((x * 7919 + (d : Int)) % 16384) - 1) + y)) 89 (gI σ 86 ((x * 7919 + (d : Int)) % 16384) - 1) u) := fun u hu => by
            have A2 := A1.trans (fr_sI (P := LP8) (i := gI σ 86 ((x * 7919 + (d : Int)) % 16384) - 1) (v := u) (a := 89) (by omega) (fun a j x => by omega))
            have e86 : ∀ p, gI (sI (sL σ 88 (gI σ 86 ((x * 7919 + (d : Int)) % 16384) - 1) (gL σ 88 (gI σ 86 ((x * 7919 + (d : Int)) % 16384) - 1) + y)) 89 (gI σ 86 ((x * 7919 + (d : Int)) % 16384) - 1) u) 86 p = gI σ 86 p := fun p => by rw [gI_na _ _ _ _ (by omega), gI_sL]
            have e87 : ∀ p, gL (sI (sL σ 88 (gI σ 86 ((x * 7919 + (d : Int)) % 16384) - 1) (gL σ 88 (gI σ 86 ((x * 7919 + (d : Int)) % 16384) - 1) + y)) 89 (gI σ 86 ((x * 7919 + (d : Int)) % 16384) - 1) u) 87 p = gL σ 87 p := fun p => by rw [gL_sI, gL_na _ _ _ _ (by omega)]
            refine hold _ (gI σ 86 ((x * 7919 + (d : Int)) % 16384) - 1) k0 (by omega) q2 A2 ⟨by rw [gI_na _ _ _ _ (by omega), gI_sL]; exact ht, t0, fun p => by rw [e86]; exact hv p, fun p q => by rw [e86, e86]; exact hi p q, fun e e0 e1 => ?_⟩ e87 (fun i => ?_) (fun i => ?_)
            · obtain ⟨d', d1, d2, d3⟩ := hd e e0 e1
              rw [e87]
              exact ⟨d', d1, by rw [e86]; exact d2, fun i hi' => by rw [e86]; exact d3 i hi'⟩
            · rw [gL_sI, gL_sL]
              by_cases z : i = gI σ 86 ((x * 7919 + (d : Int)) % 16384) - 1
              · rw [if_pos ⟨rfl, z⟩, if_pos z, z]
              · rw [if_neg (fun g => z g.2), if_neg z]
            · rw [gI_sI, gI_sL, hu]
              by_cases z : i = gI σ 86 ((x * 7919 + (d : Int)) % 16384) - 1
              · rw [if_pos ⟨rfl, z⟩, z]
                by_cases z2 : w < gI σ 89 (gI σ 86 ((x * 7919 + (d : Int)) % 16384) - 1)
                · rw [if_pos z2, if_pos ⟨rfl, z2⟩]
                · rw [if_neg z2, if_neg (fun g => z2 g.2)]
              · rw [if_neg (fun g => z g.2), if_neg (fun g => z g.1)]
          refine ⟨(h87 _ k0 (by omega)).2, fun q3 => fin _ (by rw [if_neg (by omega)]), fun q3 => fin _ (by rw [if_pos q3])⟩
        · -- another's: on
          rw [show ((x * 7919 + (d : Int)) % 16384 + 1) % 16384 = (x * 7919 + ((d + 1 : Nat) : Int)) % 16384 by omega]
          refine ih (d + 1) (by omega) (fun i hi' => ?_)
          by_cases z : i = d
          · rw [z]; exact ⟨by omega, q2⟩
          · exact hno i (by omega)
  have := lp 16384 0 rfl (fun i hi' => by omega)
  rw [show (x * 7919 + ((0 : Nat) : Int)) % 16384 = x * 7919 % 16384 by omega] at this
  exact eX8_leaves this
