/-! the reference's deeds, fillings, carries -/
theorem ME.fr {P : Nat → Int → Prop} {σ τ : ASt} {j : Int} {x : Int × (Int → Int)} {h : Nat} (H : Fr P σ τ) (h1 : ∀ j, P 81 j) (h2 : ∀ j, P 82 j) (C : ME σ j x h) : ME τ j x h := ⟨(H.I (h1 _)).trans C.1, fun k a b => (H.I (h2 _)).trans (C.2 k a b)⟩
theorem M82.fr {P : Nat → Int → Prop} {σ τ : ASt} (H : Fr P σ τ) (h2 : ∀ j, P 82 j) (C : M82 σ) : M82 τ := fun j a b => by rw [H.I (h2 j)]; exact C j a b
theorem sp_mforgets {L : List (Int × (Int → Int))} {hf : Int → Nat} {σ : ASt} (C : ML σ L hf) (hx : ∀ x ∈ L, i32 x.1 ∧ hf x.1 ≤ 43) (m82 : M82 σ) {r : Int} (hr : i32 r) {Q : ASt → Prop} (hq : ∀ τ, Fr DP8 σ τ → ML τ (fgt L r) hf → M82 τ → Q τ) : EvV K_X8_forgets [.ref 72, .int (iI r)] σ Q := by
  have l12 := C.2.1
  have lp : ∀ (m : Nat) (i : Nat) (τ : ASt), i + m = L.length → Fr DQ8 σ τ → M82 τ → (∀ (j : Nat) x, (fgt (L.take i) r)[j]? = some x → ME τ j x (hf x.1)) → (∀ (j : Nat) x, i ≤ j → L[j]? = some x → ME τ j x (hf x.1)) → Wx K_X8_forgets (QV Q) 4 [(0, .ref 72), (1, .int (iI r)), (2, .int (iI ((fgt (L.take i) r).length : Int))), (3, .int (iI (i : Int)))] [] τ := by
    intro m
    induction m with
    | zero =>
      intro i τ hi hA h82 h1 h2
      have hc : gI τ 72 10 = L.length := (hA.I (by omega)).trans C.1
      have et : L.take i = L := List.take_of_length_le (by omega)
      rw [et] at h1 ⊢
      have A2 : Fr (fun a j => ¬ (a = 72 ∧ j = 10)) τ (sI τ 72 10 ((fgt L r).length : Int)) := fr_sI (by omega) (fun a j x => by omega)
      refine bX8_forgets_4 hr (by omega) ⟨by rw [hc]; omega, fun _ => hq _ ((hA.mono (fun a j x => ⟨x.1, x.2.1⟩)).trans (A2.mono (fun a j x => x.2.2))) ⟨gI_self _ _ _ _, ?_, fun j x hx => (h1 j x hx).fr A2 (fun j => by omega) (fun j => by omega)⟩ (h82.fr A2 (fun j => by omega)), fun q => by rw [hc] at q; omega⟩
      have := List.length_filter_le (fun x : Int × (Int → Int) => decide (x.1 ≠ r)) L
      unfold fgt; omega
    | succ m ih =>
      intro i τ hi hA h82 h1 h2
      have hc : gI τ 72 10 = L.length := (hA.I (by omega)).trans C.1
      have hil : i < L.length := by omega
      have hgi : L[i]? = some L[i] := List.getElem?_eq_getElem hil
      have ei := h2 i L[i] (Nat.le_refl _) hgi
      have hm := hx L[i] (List.getElem_mem hil)
      have hle := List.length_filter_le (fun x : Int × (Int → Int) => decide (x.1 ≠ r)) (L.take i)
      rw [List.length_take] at hle
      have etk : L.take (i + 1) = L.take i ++ [L[i]] := by rw [List.take_succ, hgi]; rfl
      have e : (i : Int) + 1 = ((i + 1 : Nat) : Int) := by omega
      refine bX8_forgets_4 hr (by omega) ⟨by rw [hc]; omega, fun q => by rw [hc] at q; omega, fun _ => ⟨⟨by omega, by omega⟩, ?_⟩⟩
      rw [ei.1]
      refine ⟨hm.1, fun q => ?_, fun q => ?_⟩
      · have ef : fgt (L.take (i + 1)) r = fgt (L.take i) r ++ [L[i]] := by
          unfold fgt
          rw [etk, List.filter_append, List.filter_cons_of_pos (by simpa using q)]; simp
        refine sp_moves (by omega) (by omega) (by omega) (by unfold fgt; omega) h82 (fun υ hA2 h82' m1 m2 => ?_)
        have := ih (i + 1) υ (by omega) (hA.trans hA2) h82' (fun j x hx' => ?_) (fun j x hj hx' => m2 j x _ (hx x (List.mem_of_getElem? hx')).2 (by unfold fgt; omega) (h2 j x (by omega) hx'))
        · rw [ef, List.length_append] at this
          have e2 : (((fgt (L.take i) r).length + [L[i]].length : Nat) : Int) = ((fgt (L.take i) r).length : Int) + 1 := by simp
          rw [e2] at this
          rw [e]; exact this
        · rw [ef] at hx'
          by_cases hj : j < (fgt (L.take i) r).length
          · rw [List.getElem?_append_left hj] at hx'
            have hmem : x ∈ L := List.mem_of_mem_take (fgt_mem (List.mem_of_getElem? hx')).1
            exact m2 j x _ (hx x hmem).2 (by omega) (h1 j x hx')
          · rw [List.getElem?_append_right (by omega)] at hx'
            have hz : j - (fgt (L.take i) r).length = 0 := by
              have := (List.getElem?_eq_some_iff.mp hx').1
              simp at this; omega
            rw [hz] at hx'
            cases hx'
            have ej : j = (fgt (L.take i) r).length := by omega
            rw [ej]
            exact m1 _ _ hm.2 ei
      · have ef : fgt (L.take (i + 1)) r = fgt (L.take i) r := by
          unfold fgt
          rw [etk, List.filter_append, List.filter_cons_of_neg (by simpa using q)]; simp
        have := ih (i + 1) τ (by omega) hA h82 (by rw [ef]; exact h1) (fun j x hj hx => h2 j x (by omega) hx)
        rw [ef] at this
        rw [e]; exact this
  exact eX8_forgets (lp L.length 0 σ (by omega) Fr.rf m82 (fun j x hx => by simp [fgt] at hx) (fun j x _ hx => C.2.2 j x hx))
theorem does_end {L : List (Int × (Int → Int))} {hf : Int → Nat} {r : Int} (r0 : 0 ≤ r) (r6 : r < 6) (hl : L.length < 12) (hb : ∀ x ∈ L, hf x.1 ≤ 43) (h43 : hf r ≤ 43) {d : Int → Int} {σ : ASt} (m79 : ∀ j : Int, 0 ≤ j → j < 300 → 0 ≤ gI σ 79 j ∧ gI σ 79 j ≤ 99) (hd : ∀ k : Int, 0 ≤ k → k < hf r → gI σ 79 (50 * r + k) = d k) (hc : gI σ 72 10 = L.length) (h81 : gI σ 81 L.length = r) (hE : ∀ (j : Nat) x, L[j]? = some x → ME σ j x (hf x.1)) (m82 : M82 σ) {Q : ASt → Prop} (hq : ∀ τ, Fr DP8 σ τ → ML τ (L ++ [(r, d)]) hf → M82 τ → Q τ) : Wx K_X8_does (QV Q) 53 [(0, .ref 72), (1, .int (iI r)), (2, .int (iI 0))] [] σ := by
  have lp : ∀ (m : Nat) (k : Int) (τ : ASt), 0 ≤ k → k + m = 50 → Fr (fun a _ => a ≠ 82) σ τ → M82 τ → (∀ j : Int, j < 50 * L.length → gI τ 82 j = gI σ 82 j) → (∀ j : Int, 0 ≤ j → j < k → gI τ 82 (50 * L.length + j) = gI σ 79 (50 * r + j)) → Wx K_X8_does (QV Q) 53 [(0, .ref 72), (1, .int (iI r)), (2, .int (iI k))] [] τ := by
    intro m
    induction m with
    | zero =>
      intro k τ k0 hk A h82 h1 h2
      have e10 : gI τ 72 10 = L.length := (A.I (by omega)).trans hc
      have A2 : Fr (fun a j => ¬ (a = 72 ∧ j = 10)) τ (sI τ 72 10 (gI τ 72 10 + 1)) := fr_sI (by omega) (fun a j x => by omega)
      refine bX8_does_53 (by omega) ⟨fun _ => hq _ ((A.mono (fun a j x => x.2.1)).trans (A2.mono (fun a j x => x.2.2))) ⟨?_, by rw [List.length_append]; simp; omega, fun j x hx => ?_⟩ (h82.fr A2 (fun j => by omega)), fun z => by omega⟩
      · rw [gI_self, e10, List.length_append]; simp
      · by_cases hj : j < L.length
        · rw [List.getElem?_append_left hj] at hx
          have e := hE j x hx
          have := hb x (List.mem_of_getElem? hx)
          refine ⟨?_, fun k k0 k1 => ?_⟩
          · rw [A2.I (by omega), A.I (by omega)]; exact e.1
          · rw [A2.I (by omega), h1 _ (by omega)]; exact e.2 k k0 k1
        · rw [List.getElem?_append_right (by omega)] at hx
          have hz : j - L.length = 0 := by
            have := (List.getElem?_eq_some_iff.mp hx).1
            simp at this; omega
          rw [hz] at hx
          cases hx
          have ej : j = L.length := by omega
          subst ej
          refine ⟨?_, fun k k0 k1 => ?_⟩
          · rw [A2.I (by omega), A.I (by omega)]; exact h81
          · have k1' : k < hf r := k1
            rw [A2.I (by omega), h2 k k0 (by omega)]; exact hd k k0 k1
    | succ m ih =>
      intro k τ k0 hk A h82 h1 h2
      have e10 : gI τ 72 10 = L.length := (A.I (by omega)).trans hc
      have dk := m79 (50 * r + k) (by omega) (by omega)
      have e1 : gI τ 79 (50 * r + k) = gI σ 79 (50 * r + k) := A.I (by omega)
      refine bX8_does_53 (by omega) ⟨fun z => by omega, fun _ => sp_digitAt r0 r6 k0 (by omega) e1 (by omega) ?_⟩
      rw [e10]
      refine ⟨⟨by omega, by omega⟩, ih (k + 1) _ (by omega) (by omega) (A.trans (fr_sI (by omega) (fun a j x => by omega))) (fun j a c => ?_) (fun j a => ?_) (fun j a c => ?_)⟩
      · by_cases z : j = 50 * L.length + k
        · rw [z, gI_self]; exact dk
        · rw [gI_ne _ _ _ z]; exact h82 j a c
      · rw [gI_ne _ _ _ (by omega)]; exact h1 j a
      · by_cases z : j = k
        · rw [z, gI_self]
        · rw [gI_ne _ _ _ (by omega)]; exact h2 j a (by omega)
  exact lp 50 0 σ (by omega) (by omega) Fr.rf m82 (fun j _ => rfl) (fun j a c => by omega)
theorem sp_does {L : List (Int × (Int → Int))} {hf : Int → Nat} {r : Int} (r0 : 0 ≤ r) (r6 : r < 6) {σ : ASt} (C : ML σ L hf) (hb : ∀ x ∈ L, hf x.1 ≤ 43) (h43 : hf r ≤ 43) {d : Int → Int} (m79 : ∀ j : Int, 0 ≤ j → j < 300 → 0 ≤ gI σ 79 j ∧ gI σ 79 j ≤ 99) (hd : ∀ k : Int, 0 ≤ k → k < hf r → gI σ 79 (50 * r + k) = d k) (m82 : M82 σ) {Q : ASt → Prop} (hq : ∀ τ, Fr DP8 σ τ → ML τ (pushD L (r, d)) hf → M82 τ → Q τ) : EvV K_X8_does [.ref 72, .int (iI r)] σ Q := by
  have l12 := C.2.1
  refine eX8_does ?_
  rw [C.1]
  refine ⟨by omega, fun q => ⟨⟨by omega, by omega⟩, ?_⟩, fun q => ?_⟩
  · have A1 : Fr (fun a _ => a ≠ 81) σ (sI σ 81 L.length r) := fr_sI (by omega) (fun a j x => by omega)
    have A1' : Fr (fun a j => ¬ (a = 81 ∧ j = L.length)) σ (sI σ 81 L.length r) := fr_sI (by omega) (fun a j x => x)
    refine does_end (σ := sI σ 81 L.length r) r0 r6 (by omega) hb h43 (d := d) (fun j a c => by rw [A1.I (by omega)]; exact m79 j a c) (fun k a c => by rw [A1.I (by omega)]; exact hd k a c) ((A1.I (by omega)).trans C.1) (gI_self _ _ _ _) (fun j x hx => ⟨?_, fun k a c => by rw [A1.I (by omega)]; exact (C.2.2 j x hx).2 k a c⟩) (m82.fr A1 (fun _ => by omega)) (fun τ A2 M2 h82 => hq τ ((A1.mono (fun a j x => x.1)).trans A2) ?_ h82)
    · have hj := (List.getElem?_eq_some_iff.mp hx).1
      rw [gI_ne _ _ _ (by omega)]; exact (C.2.2 j x hx).1
    · unfold pushD
      rw [if_pos (by omega)]; exact M2
  · have hl : L.length = 12 := by omega
    have lp : ∀ (m : Nat) (i : Nat) (τ : ASt), 1 ≤ i → i + m = 12 → Fr DQ8 σ τ → M82 τ → (∀ (j : Nat) x, j + 1 < i → L[j + 1]? = some x → ME τ j x (hf x.1)) → (∀ (j : Nat) x, i ≤ j → L[j]? = some x → ME τ j x (hf x.1)) → Wx K_X8_does (QV Q) 11 [(0, .ref 72), (1, .int (iI r)), (2, .int (iI (i : Int)))] [] τ := by
      intro m
      induction m with
      | zero =>
        intro i τ i1 hi A h82 h1 h2
        have e10 : gI τ 72 10 = 12 := by rw [A.I (by omega), C.1, hl]; rfl
        refine bX8_does_11 (by omega) ⟨fun _ => ?_, fun z => by omega⟩
        rw [gI_self, e10]
        have hlt : L.tail.length = 11 := by rw [List.length_tail]; omega
        have A1 : Fr DP8 τ (sI (sI τ 72 10 (12 - 1)) 81 (12 - 1) r) := (fr_sI (by omega) (fun a j x => by omega)).trans (fr_sI (by omega) (fun a j x => by omega))
        refine ⟨⟨by omega, by omega⟩, does_end (L := L.tail) (hf := hf) r0 r6 (by omega) (fun x hx => hb x (List.mem_of_mem_tail hx)) h43 (d := d) (fun j a c => ?_) (fun k a c => ?_) ?_ ?_ (fun j x hx => ?_) ?_ (fun υ A2 M2 h82' => hq υ ((A.mono (fun a j x => ⟨x.1, x.2.1⟩)).trans (A1.trans A2)) ?_ h82')⟩
        · rw [A1.I (by omega), A.I (by omega)]; exact m79 j a c
        · rw [A1.I (by omega), A.I (by omega)]; exact hd k a c
        · rw [gI_na _ _ _ _ (by omega), gI_self, hlt]; rfl
        · rw [hlt]; exact gI_self _ _ _ _
        · have hj := (List.getElem?_eq_some_iff.mp hx).1
          rw [List.getElem?_tail] at hx
          have e := h1 j x (by omega) hx
          refine ⟨?_, fun k a c => ?_⟩
          · rw [gI_ne _ _ _ (by omega), gI_na _ _ _ _ (by omega)]; exact e.1
          · rw [gI_na _ _ _ _ (by omega), gI_na _ _ _ _ (by omega)]; exact e.2 k a c
        · intro j a c
          rw [gI_na _ _ _ _ (by omega), gI_na _ _ _ _ (by omega)]; exact h82 j a c
        · unfold pushD
          rw [if_neg (by omega)]; exact M2
      | succ m ih =>
        intro i τ i1 hi A h82 h1 h2
        refine bX8_does_11 (by omega) ⟨fun z => by omega, fun _ => ?_⟩
        refine sp_moves (by omega) (by omega) (by omega) (by omega) h82 (fun υ A2 h82' m1 m2 => ?_)
        rw [show (i : Int) + 1 = ((i + 1 : Nat) : Int) by omega]
        refine ih (i + 1) υ (by omega) (by omega) (A.trans A2) h82' (fun j x hj hx => ?_) (fun j x hj hx => m2 j x _ (hb x (List.mem_of_getElem? hx)) (by omega) (h2 j x (by omega) hx))
        have hb' := hb x (List.mem_of_getElem? hx)
        by_cases z : j + 1 = i
        · have := m1 x _ hb' (by rw [← z]; exact_mod_cast h2 (j + 1) x (by omega) hx)
          rw [show (i : Int) - 1 = (j : Int) by omega] at this
          exact this
        · exact m2 j x _ hb' (by omega) (h1 j x (by omega) hx)
    exact lp 11 1 σ (by omega) (by omega) Fr.rf m82 (fun j x hj => by omega) (fun j x _ hx => C.2.2 j x hx)
/-- a reel's place, after it was filled -/
abbrev HP8 (r : Int) : Nat → Int → Prop := fun a j => ¬ (a = 78 ∧ j = r) ∧ ¬ (a = 79 ∧ 50 * r ≤ j ∧ j < 50 * r + 50) ∧ a ≠ 81 ∧ a ≠ 82 ∧ ¬ (a = 72 ∧ j = 10)
theorem sp_holds {L : List (Int × (Int → Int))} {hf : Int → Nat} {σ : ASt} (C : ML σ L hf) (hx : ∀ x ∈ L, i32 x.1 ∧ hf x.1 ≤ 43) (D : MD σ) {r b n : Int} {s g : Int → Int} {h : Nat} (r0 : 0 ≤ r) (r6 : r < 6) (b0 : 0 ≤ b) (b2 : b ≤ 2) (B : BOK s n h) (M : MB σ b s n h) (G : ∀ k : Int, 0 ≤ k → k < h → 0 ≤ g k ∧ g k ≤ 99) (hg : ∀ k : Int, 0 ≤ k → k < h → gI σ 80 k = g k) {Q : Int → ASt → Prop} (hq : ∀ τ, Fr (HP8 r) σ τ → RR τ r b s n h g → ML τ (fgt L r) hf → MD τ → Q (ct g h) τ) : EvI K_X8_holds [.ref 72, .int (iI r), .int (iI b)] σ Q := by
  have h43 := B.h43
  have A1 : Fr (fun a j => ¬ (a = 78 ∧ j = r)) σ (sI σ 78 r b) := fr_sI (by omega) (fun a j x => x)
  have m82 : M82 σ := fun j a c => (D j a).2.1 c
  refine eX8_holds ⟨⟨r0, r6⟩, ?_⟩
  refine sp_mforgets (C.fr A1 (by omega) (fun _ => by omega) (fun _ => by omega)) hx (m82.fr A1 (fun _ => by omega)) (by omega) (fun τ A2 L2 h82 => ?_)
  have A3 : Fr (fun a j => ¬ (a = 78 ∧ j = r) ∧ DP8 a j) σ τ := (A1.mono (fun a j x => x.1)).trans (A2.mono (fun a j x => x.2))
  have R3 : RR τ r b s n h (fun k => gI σ 79 (50 * r + k)) := ⟨by rw [A2.I (by omega), gI_self], M.fr A3 (fun a j x y => by omega), fun k a c => A3.I (by omega)⟩
  refine sp_takes R3 B (fun k a c => (D _ (by omega)).1 (by omega)) G (fun k a c => (A3.I (by omega)).trans (hg k a c)) r0 r6 b0 b2 (fun υ A4 R4 => ?_)
  refine sp_filled R4 B G r0 r6 b0 b2 ?_
  have A5 : Fr (HP8 r) σ υ := (A3.mono (fun a j x => by omega)).trans (A4.mono (fun a j x => by omega))
  refine hq υ A5 R4 (L2.fr A4 (by omega) (fun _ => by omega) (fun _ => by omega)) (fun j a => ⟨fun c => ?_, fun c => ?_, fun c => ?_⟩)
  · by_cases z : 50 * r ≤ j ∧ j < 50 * r + h
    · have e := R4.2.2 (j - 50 * r) (by omega) (by omega)
      rw [show 50 * r + (j - 50 * r) = j by omega] at e
      rw [e]; exact G _ (by omega) (by omega)
    · rw [A4.I (by omega), A3.I (by omega)]; exact (D j a).1 c
  · rw [A4.I (by omega)]; exact h82 j a c
  · rw [A4.I (by omega), A3.I (by omega)]; exact (D j a).2.2 c
theorem rH_sR {α : AB} {r b : Int} {d : Int → Int} {L : List (Int × (Int → Int))} (q : Int) : rH (sR α r.toNat b d L) q = if q.toNat = r.toNat then aH α b.toNat else rH α q := by
  show aH α (up1 (aB α) r.toNat b q.toNat).toNat = _
  by_cases e : q.toNat = r.toNat
  · rw [if_pos e, e, up1_self]
  · rw [if_neg e, up1_ne _ _ e]; rfl
theorem MKp.fill {σ : ASt} {α : AB} {r : Nat} (r6 : r < 6) {b : Int} {d : Int → Int} {L : List (Int × (Int → Int))} (C : MKp σ α) : MKp σ (sR α r b d L) := by
  refine ⟨C.1, fun q => ⟨(C.2 q).1, fun p p0 p6 => ?_⟩⟩
  show gI σ 99 p = up1 (aB α) r b (6 + p.toNat) ∧ (0 ≤ up1 (aB α) r b (6 + p.toNat) → ∀ k : Int, 0 ≤ k → k < aH α (3 + (up1 (aB α) r b (6 + p.toNat)).toNat) → gI σ 100 (50 * p + k) = up1 (aD α) r d (6 + p.toNat) k)
  rw [up1_ne _ _ (by omega), up1_ne _ _ (by omega)]
  exact (C.2 q).2 p p0 p6
theorem MAll.fill {σ τ : ASt} {α : AB} (W : WF α) (C : MAll σ α) {r b : Int} (r0 : 0 ≤ r) (r6 : r < 6) {d : Int → Int} {L : List (Int × (Int → Int))} (H : Fr (fun a j => HP8 r a j ∧ WK a j) σ τ) (h1 : MR τ r b d (aH α b.toNat)) (h2 : ML τ L (rH (sR α r.toNat b d L))) (h3 : MD τ) : MAll τ (sR α r.toNat b d L) := by
  obtain ⟨c1, c2, c3, c4, c5, c6, c7⟩ := C
  refine ⟨fun i a c => (c1 i a c).fr H (fun a j x y => ⟨by omega, wk_ar (by omega)⟩), fun q a c => ?_, h2, c4.fr H ⟨by omega, wk_72 (by omega)⟩ (fun j => ⟨by omega, wk_ar (by omega)⟩), fun w a c => (c5 w a c).fr H ⟨by omega, wk_ar (by omega)⟩ ⟨by omega, wk_ar (by omega)⟩ (fun j _ _ => ⟨by omega, wk_ar (by omega)⟩), (c6.fr H ⟨by omega, wk_72 (by omega)⟩ (fun a j _ _ => ⟨by omega, wk_ar (by omega)⟩)).fill (by omega), h3⟩
  rw [rH_sR]
  by_cases e : q = r
  · subst e
    rw [if_pos rfl]
    show MR τ q (up1 (aB α) q.toNat b q.toNat) (up1 (aD α) q.toNat d q.toNat) _
    rw [up1_self, up1_self]; exact h1
  · rw [if_neg (by omega)]
    show MR τ q (up1 (aB α) r.toNat b q.toNat) (up1 (aD α) r.toNat d q.toNat) _
    rw [up1_ne _ _ (by omega), up1_ne _ _ (by omega)]
    exact (c2 q a c).fr H (fun z => rH43 W a c z) ⟨by omega, wk_ar (by omega)⟩ (fun j _ _ => ⟨by omega, wk_ar (by omega)⟩)
theorem ML.congr {σ : ASt} {L : List (Int × (Int → Int))} {hf hg : Int → Nat} (C : ML σ L hf) (h : ∀ x ∈ L, hg x.1 = hf x.1) : ML σ L hg := ⟨C.1, C.2.1, fun j x hx => by rw [h x (List.mem_of_getElem? hx)]; exact C.2.2 j x hx⟩
theorem WF.Lb {α : AB} (W : WF α) : ∀ x ∈ aL α, i32 x.1 ∧ rH α x.1 ≤ 43 := fun x hx => by
  have h := W.2.2.2.1 x hx
  exact ⟨by omega, rH43 W h.1 h.2.1 h.2.2.1⟩
theorem fgt_rH {α : AB} (W : WF α) {r b : Int} (r0 : 0 ≤ r) {d : Int → Int} : ∀ x ∈ fgt (aL α) r, rH (sR α r.toNat b d (fgt (aL α) r)) x.1 = rH α x.1 := fun x hx => by
  have h := fgt_mem hx
  have h' := W.2.2.2.1 x h.1
  rw [rH_sR, if_neg (by have := h.2; omega)]
theorem turn_rH' {α : AB} {r : Int} {d : Int → Int} (q : Int) : rH (turn α r d) q = rH α q := turn_rH α r q d
/-! carries -/
theorem sp_can {r b n : Int} {s d : Int → Int} {h : Nat} {σ : ASt} (R : RR σ r b s n h d) (B : BOK s n h) (D : ∀ k : Int, 0 ≤ k → k < h → 0 ≤ d k ∧ d k ≤ 99) (r0 : 0 ≤ r) (r6 : r < 6) (b0 : 0 ≤ b) (b2 : b ≤ 2) {k z y : Int} (hz : (z = 1 ∧ y = -1) ∨ (z = -1 ∧ y = 1)) (k0 : 0 ≤ k) (k1 : k + 1 < h) {QT QF : ASt → Prop} (hT : canC s h d k z → QT σ) (hF : ¬ canC s h d k z → QF σ) : EvZ K_X8_can [.ref 72, .int (iI r), .int (iI k), .int (iI y)] σ QT QF := by
  have h43 := B.h43
  have cb := cN_b B k0
  have d1 := D (k + 1) (by omega) (by omega)
  have d2 := D k k0 (by omega)
  have s1 := B.2.2.1 k k0
  have s0 := B.2.2.1 0 (by omega)
  refine eX8_can (by omega) ⟨⟨r0, r6⟩, ?_⟩
  rw [R.1]
  refine R.at B D r0 r6 (by omega) (by omega) (R.at B D r0 r6 k0 (by omega) ⟨fun q => ?_, fun q => ?_⟩)
  · have e : cN s k = s k := if_neg q
    have d3 := D (k - 1) (by omega) (by omega)
    refine sp_step b0 b2 B R.2.1 k0 (by omega) ⟨fun _ => R.at B D r0 r6 (by omega) (by omega) ?_, fun w => absurd w q⟩
    have ey : d (k + 1) - y = d (k + 1) + z := by omega
    have ey2 : d k + y * s k = d k - z * cN s k := by rw [e]; rcases hz with ⟨rfl, rfl⟩ | ⟨rfl, rfl⟩ <;> omega
    have ey3 : d (k - 1) + y = d (k - 1) - z := by omega
    have zc : z * cN s k = cN s k ∨ z * cN s k = - cN s k := by
      rcases hz with ⟨rfl, rfl⟩ | ⟨rfl, rfl⟩
      · left; omega
      · right; omega
    rw [ey, ey2, ey3]
    refine ⟨by omega, sp_in (by omega) (by omega) (by omega) (fun a1 a2 => ⟨by omega, sp_in (by omega) (by omega) (by omega) (fun a3 a4 => ⟨by omega, sp_in (by omega) (by omega) (by omega) (fun a5 a6 => hT ⟨k0, k1, ⟨a1, a2⟩, ⟨a3, a4⟩, Or.inr ⟨a5, a6⟩⟩) (fun g => hF (fun u => by have := u.2.2.2.2; omega))⟩) (fun g => hF (fun u => by have := u.2.2.2.1; omega))⟩) (fun g => hF (fun u => by have := u.2.2.1; omega))⟩
  · have e : cN s k = s 0 + 1 := if_pos q
    refine sp_mworth b0 b2 B R.2.1 (by omega) (by omega) ⟨fun w => absurd q w, fun _ => ?_⟩
    have ew : wo s (1 : Int).toNat = s 0 + 1 := rfl
    rw [ew]
    have ey : d (k + 1) - y = d (k + 1) + z := by omega
    have ey2 : d k + y * (s 0 + 1) = d k - z * cN s k := by rw [e]; rcases hz with ⟨rfl, rfl⟩ | ⟨rfl, rfl⟩ <;> omega
    have zc : z * cN s k = cN s k ∨ z * cN s k = - cN s k := by
      rcases hz with ⟨rfl, rfl⟩ | ⟨rfl, rfl⟩
      · left; omega
      · right; omega
    rw [ey, ey2]
    refine ⟨by omega, sp_in (by omega) (by omega) (by omega) (fun a1 a2 => ⟨by omega, sp_in (by omega) (by omega) (by omega) (fun a3 a4 => sp_in (by omega) (by omega) (by omega) (fun a5 a6 => hT ⟨k0, k1, ⟨a1, a2⟩, ⟨a3, a4⟩, Or.inl q⟩) (fun g => by omega)) (fun g => hF (fun u => by have := u.2.2.2.1; omega))⟩) (fun g => hF (fun u => by have := u.2.2.1; omega))⟩
theorem sp_goes {r b n : Int} {s d : Int → Int} {h : Nat} {σ : ASt} (R : RR σ r b s n h d) (B : BOK s n h) (r0 : 0 ≤ r) (r6 : r < 6) (b0 : 0 ≤ b) (b2 : b ≤ 2) {k z y : Int} (hz : (z = 1 ∧ y = -1) ∨ (z = -1 ∧ y = 1)) (hc : canC s h d k z) {Q : ASt → Prop} (hq : ∀ τ, Fr (fun a j => ¬ (a = 79 ∧ 50 * r ≤ j ∧ j < 50 * r + h)) σ τ → RR τ r b s n h (crr s d k z) → Q τ) : EvV K_X8_goes [.ref 72, .int (iI r), .int (iI k), .int (iI y)] σ Q := by
  have h43 := B.h43
  obtain ⟨k0, k1, c3, c4, c5⟩ := hc
  have e1 := R.2.2 (k + 1) (by omega) (by omega)
  have e2 := R.2.2 k k0 (by omega)
  rw [show 50 * r + (k + 1) = 50 * r + k + 1 by omega] at e1
  have A1 : Fr (fun a j => ¬ (a = 79 ∧ 50 * r ≤ j ∧ j < 50 * r + h)) σ (sI σ 79 (50 * r + k + 1) (d (k + 1) - y)) := fr_sI (by omega) (fun a j x => by omega)
  have M1 := R.2.1.fr A1 (fun a j x y => by omega)
  refine eX8_goes (by omega) ⟨⟨r0, r6⟩, ⟨by omega, by omega⟩, ⟨by omega, by omega⟩, ?_⟩
  rw [e1, R.1]
  refine ⟨fun q => ?_, fun q => ?_⟩
  · have ec : cN s k = s k := if_neg q
    have e3 := R.2.2 (k - 1) (by omega) (by omega)
    rw [show 50 * r + (k - 1) = 50 * r + k - 1 by omega] at e3
    refine sp_step b0 b2 B M1 k0 (by omega) ⟨fun w => by omega, fun _ => ⟨⟨by omega, by omega⟩, ?_⟩⟩
    rw [gI_ne _ _ _ (show 50 * r + k ≠ 50 * r + k + 1 by omega), e2, gI_ne _ _ _ (show 50 * r + k - 1 ≠ 50 * r + k by omega), gI_ne _ _ _ (show 50 * r + k - 1 ≠ 50 * r + k + 1 by omega), e3]
    have A3 : Fr (fun a j => ¬ (a = 79 ∧ 50 * r ≤ j ∧ j < 50 * r + h)) σ (sI (sI (sI σ 79 (50 * r + k + 1) (d (k + 1) - y)) 79 (50 * r + k) (d k + y * s k)) 79 (50 * r + k - 1) (d (k - 1) + y)) := (A1.trans (fr_sI (by omega) (fun a j x => by omega))).trans (fr_sI (by omega) (fun a j x => by omega))
    refine hq _ A3 ⟨(A3.I (by omega)).trans R.1, R.2.1.fr A3 (fun a j x y => by omega), fun j a c => ?_⟩
    have ey2 : d k + y * s k = d k - z * cN s k := by rw [ec]; rcases hz with ⟨rfl, rfl⟩ | ⟨rfl, rfl⟩ <;> omega
    unfold crr
    by_cases z1 : j = k - 1
    · rw [z1, if_neg (by omega), if_neg (by omega), if_pos (by omega), show 50 * r + (k - 1) = 50 * r + k - 1 by omega, gI_self]; omega
    · rw [gI_ne _ _ _ (by omega)]
      by_cases z2 : j = k
      · rw [z2, if_neg (by omega), if_pos rfl, gI_self]; exact ey2
      · rw [gI_ne _ _ _ (by omega)]
        by_cases z3 : j = k + 1
        · rw [z3, if_pos rfl, show 50 * r + (k + 1) = 50 * r + k + 1 by omega, gI_self]; omega
        · rw [gI_ne _ _ _ (by omega), if_neg z3, if_neg z2, if_neg (by omega)]
          exact R.2.2 j a c
  · have ec : cN s k = s 0 + 1 := if_pos q
    refine sp_mworth b0 b2 B M1 (by omega) (by omega) ⟨fun _ => ?_, fun w => by omega⟩
    have ew : wo s (1 : Int).toNat = s 0 + 1 := rfl
    rw [ew, gI_ne _ _ _ (show 50 * r + k ≠ 50 * r + k + 1 by omega), e2]
    have A3 : Fr (fun a j => ¬ (a = 79 ∧ 50 * r ≤ j ∧ j < 50 * r + h)) σ (sI (sI σ 79 (50 * r + k + 1) (d (k + 1) - y)) 79 (50 * r + k) (d k + y * (s 0 + 1))) := A1.trans (fr_sI (by omega) (fun a j x => by omega))
    refine hq _ A3 ⟨(A3.I (by omega)).trans R.1, R.2.1.fr A3 (fun a j x y => by omega), fun j a c => ?_⟩
    have ey2 : d k + y * (s 0 + 1) = d k - z * cN s k := by rw [ec]; rcases hz with ⟨rfl, rfl⟩ | ⟨rfl, rfl⟩ <;> omega
    unfold crr
    by_cases z2 : j = k
    · rw [z2, if_neg (by omega), if_pos rfl, gI_self]; exact ey2
    · rw [gI_ne _ _ _ (by omega)]
      by_cases z3 : j = k + 1
      · rw [z3, if_pos rfl, show 50 * r + (k + 1) = 50 * r + k + 1 by omega, gI_self]; omega
      · rw [gI_ne _ _ _ (by omega), if_neg z3, if_neg z2, if_neg (by omega)]
        exact R.2.2 j a c
theorem sp_comes {x y w t : Int} {σ : ASt} {Q : Int → ASt → Prop} (x0 : 0 ≤ x) (x1 : x ≤ 4257000000000) (y0 : 0 ≤ y) (y1 : y ≤ 4257000000000) (w1 : 1 ≤ w) (w4 : w ≤ 4) (t0 : 0 ≤ t) (t1 : i64 t) (hq : ∀ e : Int, i64 e → (0 ≤ e ∧ e ≤ t ↔ 0 ≤ rk x y w ∧ rk x y w ≤ t) → (0 ≤ e ∧ e ≤ t → e = rk x y w) → Q e σ) : EvL K_X8_comes [.long (lI x), .long (lI y), .int (iI w), .long (lI t)] σ Q := by
  have q1 : Int.tdiv x y = x / y := Int.tdiv_eq_ediv_of_nonneg x0
  have q2 : Int.tmod x y = x % y := Int.tmod_eq_emod_of_nonneg x0
  have same : ∀ e : Int, i64 e → e = rk x y w → Q e σ := fun e i h => hq e i (by rw [h]) (fun _ => h)
  refine eX8_comes (by omega) (by omega) (by omega) t1 ⟨fun a => ⟨fun b => ⟨fun c => ?_, fun c => ?_⟩, fun b => ⟨fun c => ?_, fun c => ⟨c, ?_⟩⟩⟩, fun a => ⟨by omega, ?_⟩⟩
  · have yp : 0 < y := by omega
    rw [q1, q2]
    have g1 := Int.emod_nonneg x c
    have g2 := Int.emod_lt_of_pos x yp
    have g3 : x / y ≤ x := Int.ediv_le_self _ x0
    have g4 : 0 ≤ x / y := Int.ediv_nonneg x0 y0
    refine ⟨fun d => ⟨c, by omega, ?_⟩, fun d => ⟨c, by omega, ?_⟩⟩
    · refine same _ (by omega) ?_
      unfold rk; rw [if_neg a, if_neg b, if_neg c, if_neg d]
    · refine same _ (by omega) ?_
      unfold rk; rw [if_neg a, if_neg b, if_neg c, if_pos d]
  · have e : rk x y w = -1 := by unfold rk; rw [if_neg a, if_neg b, if_pos c]
    refine hq _ (by omega) ?_ ?_
    · rw [e]
    · intro h; omega
  · have e : rk x y w = x * y := by unfold rk; rw [if_neg a, if_pos b]
    have ez : x * y = 0 := by rw [c]; exact Int.zero_mul y
    exact ⟨by omega, same _ (by omega) e.symm⟩
  · have e : rk x y w = x * y := by unfold rk; rw [if_neg a, if_pos b]
    have h2 := Int.mul_nonneg x0 y0
    have e3 : Int.tdiv t x = t / x := Int.tdiv_eq_ediv_of_nonneg t0
    have xp : 0 < x := by omega
    have b1 : t / x ≤ t := Int.ediv_le_self _ t0
    have b0 : 0 ≤ t / x := Int.ediv_nonneg t0 x0
    rw [e3]
    refine ⟨by omega, fun u => ?_, fun u => ?_⟩
    · have h1 := (Int.le_ediv_iff_mul_le xp).mp u
      rw [Int.mul_comm] at h1
      exact ⟨by omega, same _ (by omega) e.symm⟩
    · refine hq _ (by omega) ?_ ?_
      · rw [e]
        refine ⟨fun q => by omega, fun q => ?_⟩
        have := (Int.le_ediv_iff_mul_le xp).mpr (show y * x ≤ t by rw [Int.mul_comm]; omega)
        omega
      · intro h; omega
  · refine same _ (by omega) ?_
    unfold rk; rw [if_pos a]
