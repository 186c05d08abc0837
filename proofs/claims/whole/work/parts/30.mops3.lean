/-! the reference's calls, third batch: texts, deeds taken back, rows -/
theorem fr_wr {P : Nat → Int → Prop} {a : Nat} (ha : 72 ≤ a) (hp : ∀ b j, P b j → b ≠ a) : ∀ (l : List Int) (σ : ASt) (n : Int), Fr P σ (wr σ a n l)
  | [], _, _ => Fr.rf
  | x :: l, σ, n => (fr_sI ha (fun b j h q => hp b j h q.1)).trans (fr_wr ha hp l (sI σ a n x) (n + 1))
theorem mi_step {r b n0 : Int} {s d : Int → Int} {h : Nat} {τ : ASt} (R : RR τ r b s n0 h d) (B : BOK s n0 h) (D : ∀ k : Int, 0 ≤ k → k < h → 0 ≤ d k ∧ d k ≤ 99) (r0 : 0 ≤ r) (r6 : r < 6) {Q : Int → ASt → Prop} {n k : Int} (k0 : 0 ≤ k) (k1 : k < h) (m0 : 0 ≤ n) (hn : n + (seg d k).length ≤ 128) (nx : Wx K_X8_prints (QI Q) 20 [(0, .ref 72), (1, .int (iI r)), (2, .int (iI (n + (seg d k).length))), (3, .int (iI (k + (-1))))] [] (wr τ 91 n (seg d k))) : Wx K_X8_prints (QI Q) 20 [(0, .ref 72), (1, .int (iI r)), (2, .int (iI n)), (3, .int (iI k))] [] τ := by
  have h43 := B.h43
  have dk := D k k0 k1
  have e1 : Int.tmod (d k) 10 = d k % 10 := Int.tmod_eq_emod_of_nonneg dk.1
  have e2 : Int.tdiv (d k) 10 = d k / 10 := Int.tdiv_eq_ediv_of_nonneg dk.1
  unfold seg fig at hn nx
  refine bX8_prints_20 (by omega) (by omega) ⟨fun q => by omega, fun _ => R.at B D r0 r6 k0 k1 ⟨fun q => ?_, fun q => ?_⟩⟩
  · rw [if_neg (by omega)] at hn nx
    refine R.at B D r0 r6 k0 k1 ?_
    rw [e1]
    by_cases z : 0 < k
    · rw [if_pos z] at hn nx
      simp at hn
      refine ⟨⟨m0, by omega⟩, fun u => by omega, fun _ => ⟨⟨by omega, by omega⟩, ?_⟩⟩
      have e : n + (([48 + d k % 10] ++ [46] : List Int).length : Int) = n + 1 + 1 := by simp; omega
      rw [e] at nx
      exact nx
    · rw [if_neg z] at hn nx
      simp at hn
      refine ⟨⟨m0, by omega⟩, fun u => ?_, fun u => by omega⟩
      have e : n + (([48 + d k % 10] ++ [] : List Int).length : Int) = n + 1 := by simp
      rw [e] at nx
      exact nx
  · rw [if_pos q] at hn nx
    refine R.at B D r0 r6 k0 k1 ?_
    rw [e2]
    have A1 : Fr (fun a _ => a ≠ 91) τ (sI τ 91 n (48 + d k / 10)) := fr_sI (by omega) (fun a j x => by omega)
    have R1 := R.fr A1 h43 (fun a j x y => by omega) (by omega) (fun j _ _ => by omega)
    by_cases z : 0 < k
    · rw [if_pos z] at hn nx
      simp at hn
      refine ⟨⟨m0, by omega⟩, R1.at B D r0 r6 k0 k1 ⟨⟨by omega, by omega⟩, fun u => by omega, fun _ => ⟨⟨by omega, by omega⟩, ?_⟩⟩⟩
      rw [e1]
      have e : n + (([48 + d k / 10, 48 + d k % 10] ++ [46] : List Int).length : Int) = n + 1 + 1 + 1 := by simp; omega
      rw [e] at nx
      exact nx
    · rw [if_neg z] at hn nx
      simp at hn
      refine ⟨⟨m0, by omega⟩, R1.at B D r0 r6 k0 k1 ⟨⟨by omega, by omega⟩, fun u => ?_, fun u => by omega⟩⟩
      rw [e1]
      have e : n + (([48 + d k / 10, 48 + d k % 10] ++ [] : List Int).length : Int) = n + 1 + 1 := by simp; omega
      rw [e] at nx
      exact nx
theorem sp_prints {r b n0 : Int} {s d : Int → Int} {h : Nat} {σ : ASt} (R : RR σ r b s n0 h d) (B : BOK s n0 h) (D : DOK d h) (r0 : 0 ≤ r) (r6 : r < 6) (b0 : 0 ≤ b) (b2 : b ≤ 2) {Q : Int → ASt → Prop} (hq : ∀ τ, Fr (fun a _ => a ≠ 91) σ τ → holds τ 91 0 (pr d) → Q (pr d).length τ) : EvI K_X8_prints [.ref 72, .int (iI r)] σ Q := by
  have h43 := B.h43
  have h1 := B.2.2.2.2.1
  have lp : ∀ (k : Nat) (n : Int) (τ : ASt), k < h → 0 ≤ n → n + (pl d k).length ≤ 128 → Fr (fun a _ => a ≠ 91) σ τ → Q (n + (pl d k).length) (wr τ 91 n (pl d k)) → Wx K_X8_prints (QI Q) 20 [(0, .ref 72), (1, .int (iI r)), (2, .int (iI n)), (3, .int (iI (k : Int)))] [] τ := by
    intro k
    induction k with
    | zero =>
      intro n τ hk n0' hn hA hfin
      have e : pl d 0 = seg d ((0 : Nat) : Int) := by rw [pl_seg]; simp
      rw [e] at hn hfin
      refine mi_step (R.fr hA h43 (fun a j x y => by omega) (by omega) (fun j _ _ => by omega)) B D.1 r0 r6 (by omega) (by omega) n0' hn ?_
      exact bX8_prints_20 (by omega) (by omega) ⟨fun _ => hfin, fun q => by omega⟩
    | succ k ih =>
      intro n τ hk n0' hn hA hfin
      have e := pl_seg d (k + 1)
      dsimp only at e
      rw [e, List.length_append] at hn hfin
      rw [wr_app] at hfin
      refine mi_step (R.fr hA h43 (fun a j x y => by omega) (by omega) (fun j _ _ => by omega)) B D.1 r0 r6 (by omega) (by omega) n0' (by omega) ?_
      rw [show ((k + 1 : Nat) : Int) + (-1) = (k : Int) by omega]
      refine ih _ _ (by omega) (by omega) (by omega) (hA.trans (fr_wr (by omega) (fun b j h => h) _ _ _)) ?_
      rw [show n + ((seg d ((k + 1 : Nat) : Int)).length : Int) + ((pl d k).length : Int) = n + (((seg d ((k + 1 : Nat) : Int)).length + (pl d k).length : Nat) : Int) by omega]
      exact hfin
  have hb := hg_b d h
  have e0 := hg_h D h43
  have hl := pl_len d (hg d h).toNat
  have fin : Wx K_X8_prints (QI Q) 20 [(0, .ref 72), (1, .int (iI r)), (2, .int (iI 0)), (3, .int (iI ((hg d h).toNat : Int)))] [] σ := by
    refine lp (hg d h).toNat 0 σ (by omega) (by omega) (by omega) Fr.rf ?_
    rw [Int.zero_add]
    have e : pl d (hg d h).toNat = pr d := by unfold pr; rw [e0]
    rw [e]
    exact hq _ (fr_wr (by omega) (fun b j h => h) _ _ _) (wr_holds 91 _ _ _)
  refine eX8_prints (sp_mhighest R B D.1 r0 r6 b0 b2 ⟨fun q => sp_mhighest R B D.1 r0 r6 b0 b2 ?_, fun q => ?_⟩)
  · rw [show ((hg d h).toNat : Int) = hg d h by omega] at fin; exact fin
  · rw [show ((hg d h).toNat : Int) = 0 by omega] at fin; exact fin
theorem M_print {σ : ASt} {α : AB} (W : WF α) (C : MAll σ α) {r k : Int} (hr : i32 r) (hk : i32 k) {Q : Int → ASt → Prop} (hq : ∀ τ, MO σ τ → MAll τ α → Q (oPrint α r k) τ) : EvI K_X8_print [.ref 72, .int (iI r), .int (iI k)] σ Q := by
  unfold oPrint at hq
  refine eX8_print hk (sp_mReel hr (fun r0 r6 => ⟨fun k1 => ?_, fun k1 => by rw [pit_neg (by omega)] at hq; exact hq σ Ag.rf C⟩) (fun q => by rw [pit_neg (by omega)] at hq; exact hq σ Ag.rf C))
  rw [pit_pos (by omega)] at hq
  refine sp_mEmpty W C.2.1 r0 r6 (fun hb => by rw [pit_pos hb] at hq; exact hq σ Ag.rf C) (fun hb b0 b2 => ?_)
  rw [pit_neg hb] at hq
  obtain ⟨B, D, R⟩ := mreel_facts W C r0 r6 b0 b2
  refine sp_prints R B D r0 r6 b0 b2 (fun τ A1 h1 => ?_)
  have fin := hq τ A1.1 (C.wk W (A1.mono (fun a j x => fun z => x.2.1 ⟨by omega, by omega⟩)))
  have hl := pl_len (rD α r) (hg (rD α r) 43).toNat
  have hb := hg_b (rD α r) 43
  have el : (pr (rD α r)).length = (pl (rD α r) (hg (rD α r) 43).toNat).length := rfl
  refine ⟨fun z => ⟨fun u => ?_, fun u => ?_⟩, fun z => ?_⟩
  · rw [pit_neg z, pit_neg (by omega)] at fin; exact fin
  · rw [pit_neg z, pit_pos u] at fin
    have hlt : k.toNat < (pr (rD α r)).length := by omega
    have e1 := h1 k.toNat _ (List.getElem?_eq_getElem hlt)
    rw [show (0 : Int) + ((k.toNat : Nat) : Int) = k by omega] at e1
    have e2 : (pr (rD α r)).getD k.toNat 0 = (pr (rD α r))[k.toNat] := by simp [List.getD, List.getElem?_eq_getElem hlt]
    rw [e1, ← e2]
    have e3 := pl_b (d := rD α r) D.all (hg (rD α r) 43).toNat _ (List.getElem_mem hlt)
    exact ⟨⟨by omega, by omega⟩, by omega, fin⟩
  · rw [pit_pos z] at fin; exact fin
theorem MAll.tape {σ τ : ASt} {α : AB} (W : WF α) (C : MAll σ α) {z : Int} {t : Int → Int} (H : Fr (fun a j => WK a j ∧ a ≠ 92 ∧ ¬ (a = 72 ∧ j = 23)) σ τ) (h : MT τ z t) : MAll τ (sT α z t) := by
  obtain ⟨c1, c2, c3, c4, c5, c6, c7⟩ := C
  exact ⟨fun i a b => (c1 i a b).fr H (fun a j x y => ⟨wk_ar (by omega), by omega, by omega⟩), fun r a b => (c2 r a b).fr H (fun q => rH43 W a b q) ⟨wk_ar (by omega), by omega, by omega⟩ (fun j _ _ => ⟨wk_ar (by omega), by omega, by omega⟩), c3.fr H ⟨wk_72 (by omega), by omega, by omega⟩ (fun j => ⟨wk_ar (by omega), by omega, by omega⟩) (fun j => ⟨wk_ar (by omega), by omega, by omega⟩), h, fun w a b => (c5 w a b).fr H ⟨wk_ar (by omega), by omega, by omega⟩ ⟨wk_ar (by omega), by omega, by omega⟩ (fun j _ _ => ⟨wk_ar (by omega), by omega, by omega⟩), c6.fr H ⟨wk_72 (by omega), by omega, by omega⟩ (fun a j _ _ => ⟨wk_ar (by omega), by omega, by omega⟩), c7.fr H (fun j => ⟨wk_ar (by omega), by omega, by omega⟩) (fun j => ⟨wk_ar (by omega), by omega, by omega⟩) (fun j => ⟨wk_ar (by omega), by omega, by omega⟩)⟩
theorem M_feed {σ : ASt} {α : AB} (W : WF α) (C : MAll σ α) {x : Int} (hx : i32 x) {Q : Int → ASt → Prop} (hq : ∀ τ, MO σ τ → MAll τ (oFeed α x).2 → Q (oFeed α x).1 τ) : EvI K_X8_feed [.ref 72, .int (iI x)] σ Q := by
  unfold oFeed at hq
  have wt := W.2.2.2.2.1
  have c4 := C.2.2.2.1
  refine eX8_feed hx (sp_in (by omega) (by omega) (by omega) (fun x0 x1 => ?_) (fun q => by rw [pit_neg (by omega)] at hq; exact hq σ Ag.rf C))
  rw [pit_pos ⟨x0, x1⟩] at hq
  rw [c4.1]
  refine ⟨by omega, fun q => ⟨⟨by omega, by omega⟩, ?_⟩, fun q => by rw [pit_neg (by omega)] at hq; exact hq σ Ag.rf C⟩
  rw [pit_pos (by omega)] at hq
  rw [gI_self, gI_na _ _ _ _ (by omega), c4.1]
  have A1 : Fr (fun a j => WK a j ∧ a ≠ 92 ∧ ¬ (a = 72 ∧ j = 23)) σ (sI (sI σ 92 (aTZ α) x) 72 23 (aTZ α + 1)) := (fr_sI (by omega) (fun a j x => by omega)).trans (fr_sI (by omega) (fun a j x => by omega))
  refine ⟨by omega, hq _ A1.1 (C.tape W A1 ⟨gI_self _ _ _ _, fun i i0 i1 => ?_⟩)⟩
  rw [gI_na _ _ _ _ (by omega)]
  unfold st1
  by_cases e : i = aTZ α
  · rw [e, gI_self, if_pos rfl]
  · rw [gI_ne _ _ _ e, if_neg e]; exact c4.2 i i0 (by omega)
/-! reading -/
def NL (σ : ASt) (l : List Int) : Prop := ∀ i : Nat, i < l.length → gI σ 90 i = l.getD (l.length - 1 - i) 0
theorem NL.cons {σ : ASt} {l : List Int} {v : Int} (h : NL σ l) : NL (sI σ 90 l.length v) (v :: l) := fun i hi => by
  rw [List.length_cons] at hi ⊢
  by_cases e : i = l.length
  · rw [e, gI_self, show l.length + 1 - 1 - l.length = 0 by omega]; rfl
  · rw [gI_ne _ _ _ (by omega), h i (by omega), show l.length + 1 - 1 - i = (l.length - 1 - i) + 1 by omega]
    simp [List.getD]
theorem sp_mFigure {σ : ASt} {z p : Int} {t : Int → Int} (C : MT σ z t) (hp : gI σ 72 24 = p) (p0 : 0 ≤ p) (z1 : z ≤ 80) (pz : p ≤ z) (ht : ∀ i : Int, 0 ≤ i → i < z → 0 ≤ t i ∧ t i ≤ 127) {QT QF : ASt → Prop} (hT : p < z → 48 ≤ t p → t p ≤ 57 → QT σ) (hF : ¬ (p < z ∧ 48 ≤ t p ∧ t p ≤ 57) → QF σ) : EvZ K_X8_isFigure [.ref 72] σ QT QF := by
  refine eX8_isFigure ?_
  rw [hp, C.1]
  refine ⟨by omega, by omega, fun q => hF (by omega), fun q => ⟨⟨p0, by omega⟩, ?_⟩⟩
  rw [C.2 p p0 q]
  have := ht p p0 q
  exact ⟨by omega, sp_in (by omega) (by omega) (by omega) (fun a b => hT q a b) (fun g => hF (by omega))⟩
abbrev RP8 : Nat → Int → Prop := fun a j => a ≠ 90 ∧ ¬ (a = 72 ∧ j = 24)
theorem sp_reads {σ : ASt} {z : Int} {t : Int → Int} (C : MT σ z t) (z0 : 0 ≤ z) (z1 : z ≤ 80) (ht : ∀ i : Int, 0 ≤ i → i < z → 0 ≤ t i ∧ t i ≤ 127) {H : Nat} (h43 : H ≤ 43) {Q : Int → ASt → Prop} (hq : ∀ τ, Fr RP8 σ τ → ((ps t z H 100 0 []).1 ≠ -1 → gI τ 72 24 = (ps t z H 100 0 []).1) → ((ps t z H 100 0 []).1 = -1 → NL τ (ps t z H 100 0 []).2) → Q (if (ps t z H 100 0 []).1 = -1 then ((ps t z H 100 0 []).2.length : Int) else -1) τ) : EvI K_X8_reads [.ref 72, .int (iI (H : Int))] σ Q := by
  generalize hP : ps t z H 100 0 [] = P at hq
  have lp : ∀ (f : Nat) (p : Int) (l : List Int) (τ : ASt), 0 ≤ p → p ≤ z → z - p < f → l.length ≤ H → ps t z H f p l = P → Fr RP8 σ τ → gI τ 72 24 = p → NL τ l → Wx K_X8_reads (QI Q) 7 [(0, .ref 72), (1, .int (iI (H : Int))), (2, .int (iI (l.length : Int)))] [] τ := by
    intro f
    induction f with
    | zero => intro p l τ p0 pz hf; omega
    | succ f ih =>
      intro p l τ p0 pz hf hl he A hp hN
      have Ct : MT τ z t := C.fr A (by omega) (fun j => by omega)
      unfold ps at he
      have bad : ∀ (υ : ASt) (x : Int) (m : List Int), 0 ≤ x → P = (x, m) → Fr RP8 σ υ → gI υ 72 24 = x → Q (-1) υ := fun υ x m x0 hx A2 h24 => by
        have e1 : (P).1 = x := by rw [hx]
        have := hq υ A2 (fun _ => by rw [e1]; exact h24) (fun g => by omega)
        rw [if_neg (by omega)] at this
        exact this
      refine bX8_reads_7 (by omega) (by omega) ⟨fun q => ?_, fun q => ?_⟩
      · rw [if_pos (Or.inl (by omega))] at he
        exact bad τ p l p0 he.symm A hp
      · refine sp_mFigure Ct hp p0 z1 pz ht (fun g1 g2 g3 => ?_) (fun g => ?_)
        · rw [if_neg (by omega)] at he
          have b := nE_b (t := t) g1
          have tp := ht p p0 g1
          rw [hp]
          have A2 : Fr RP8 τ (sI τ 72 24 (p + 1)) := fr_sI (by omega) (fun a j x => by omega)
          have Ct2 : MT (sI τ 72 24 (p + 1)) z t := Ct.fr A2 (by omega) (fun j => by omega)
          have e92 : gI τ 92 p = t p := Ct.2 p p0 g1
          -- what follows behind the number that ends at e
          have fin : ∀ (υ : ASt) (v : Int), v = nV t z p → Fr RP8 σ υ → gI υ 72 24 = nE t z p → NL υ l → i32 (gI (sI υ 90 l.length v) 72 24) ∧ i32 (gI (sI υ 90 l.length v) 72 23) ∧ ((gI (sI υ 90 l.length v) 72 24 ≠ gI (sI υ 90 l.length v) 72 23 → ((0 : Int) ≤ gI (sI υ 90 l.length v) 72 24 ∧ gI (sI υ 90 l.length v) 72 24 < 80) ∧ i32 (gI (sI υ 90 l.length v) 92 (gI (sI υ 90 l.length v) 72 24)) ∧ ((gI (sI υ 90 l.length v) 92 (gI (sI υ 90 l.length v) 72 24) = 46 → Wx K_X8_reads (QI Q) 7 [(0, .ref 72), (1, .int (iI (H : Int))), (2, .int (iI ((l.length : Int) + 1)))] [] (sI (sI υ 90 l.length v) 72 24 (gI (sI υ 90 l.length v) 72 24 + 1))) ∧ (gI (sI υ 90 l.length v) 92 (gI (sI υ 90 l.length v) 72 24) ≠ 46 → Q (-1) (sI υ 90 l.length v)))) ∧ (gI (sI υ 90 l.length v) 72 24 = gI (sI υ 90 l.length v) 72 23 → i32 ((l.length : Int) + 1) ∧ Q ((l.length : Int) + 1) (sI υ 90 l.length v))) := by
            intro υ v hv A3 h24 hN3
            subst hv
            have A4 : Fr RP8 σ (sI υ 90 l.length (nV t z p)) := A3.trans (fr_sI (by omega) (fun a j x => by omega))
            have Ct4 : MT (sI υ 90 l.length (nV t z p)) z t := C.fr A4 (by omega) (fun j => by omega)
            have h24' : gI (sI υ 90 l.length (nV t z p)) 72 24 = nE t z p := by rw [gI_na _ _ _ _ (by omega)]; exact h24
            rw [h24', Ct4.1]
            refine ⟨by omega, by omega, fun w => ⟨⟨by omega, by omega⟩, ?_⟩, fun w => ⟨by omega, ?_⟩⟩
            · have e5 := Ct4.2 (nE t z p) (by omega) (by omega)
              have t5 := ht (nE t z p) (by omega) (by omega)
              rw [e5]
              rw [if_neg w] at he
              refine ⟨by omega, fun y => ?_, fun y => ?_⟩
              · rw [if_neg (by omega)] at he
                rw [show (l.length : Int) + 1 = (((nV t z p :: l).length : Nat) : Int) by simp]
                have A5 : Fr (fun a j => ¬ (a = 72 ∧ j = 24)) (sI υ 90 l.length (nV t z p)) (sI (sI υ 90 l.length (nV t z p)) 72 24 (nE t z p + 1)) := fr_sI (by omega) (fun a j x => x)
                exact ih (nE t z p + 1) (nV t z p :: l) _ (by omega) (by omega) (by omega) (by simp; omega) he (A4.trans (A5.mono (fun a j x => x.2))) (gI_self _ _ _ _) (fun i hi => by rw [A5.I (by omega)]; exact hN3.cons i hi)
              · rw [if_pos y] at he
                exact bad _ (nE t z p) _ (by omega) he.symm A4 h24'
            · rw [if_pos w] at he
              have := hq _ A4 (fun g => by rw [← he] at g; exact absurd rfl g) (fun _ => by rw [← he]; exact hN3.cons)
              rw [← he] at this
              rw [if_pos rfl] at this
              simp at this
              exact this
          refine ⟨⟨p0, by omega⟩, sp_mFigure Ct2 (gI_self _ _ _ _) (by omega) z1 (by omega) ht (fun g4 g5 g6 => ?_) (fun g => ?_)⟩
          · have eE : nE t z p = p + 2 := if_pos ⟨g4, g5, g6⟩
            have eV : nV t z p = 10 * (t p - 48) + (t (p + 1) - 48) := if_pos ⟨g4, g5, g6⟩
            have e92' : gI (sI τ 72 24 (p + 1)) 92 (p + 1) = t (p + 1) := Ct2.2 (p + 1) (by omega) g4
            rw [gI_self, e92, e92']
            refine ⟨⟨by omega, by omega⟩, ⟨by omega, by omega⟩, ?_⟩
            have A3 : Fr RP8 σ (sI (sI τ 72 24 (p + 1)) 72 24 (p + 1 + 1)) := (A.trans A2).trans (fr_sI (by omega) (fun a j x => by omega))
            refine fin (sI (sI τ 72 24 (p + 1)) 72 24 (p + 1 + 1)) (10 * (t p - 48) + t (p + 1) - 48) (by rw [eV]; omega) A3 (by rw [gI_self, eE]; omega) (fun i hi => ?_)
            rw [gI_na _ _ _ _ (by omega), gI_na _ _ _ _ (by omega)]; exact hN i hi
          · have eE : nE t z p = p + 1 := if_neg (by omega)
            have eV : nV t z p = t p - 48 := if_neg (by omega)
            rw [e92]
            refine ⟨⟨by omega, by omega⟩, ?_⟩
            refine fin (sI τ 72 24 (p + 1)) (t p - 48) eV.symm (A.trans A2) (by rw [gI_self, eE]) (fun i hi => ?_)
            rw [gI_na _ _ _ _ (by omega)]; exact hN i hi
        · rw [if_pos (Or.inr g)] at he
          exact bad τ p l p0 he.symm A hp
  refine eX8_reads ?_
  have A0 : Fr RP8 σ (sI σ 72 24 0) := fr_sI (by omega) (fun a j x => by omega)
  exact lp 100 0 [] _ (by omega) z0 (by omega) (by simp) hP A0 (gI_self _ _ _ _) (fun i hi => by simp at hi)
theorem M_read {σ : ASt} {α : AB} (W : WF α) (C : MAll σ α) {r b : Int} (hr : i32 r) (hb : i32 b) {Q : Int → ASt → Prop} (hq : ∀ τ, MO σ τ → MAll τ (oRead α r b).2 → Q (oRead α r b).1 τ) : EvI K_X8_read [.ref 72, .int (iI r), .int (iI b)] σ Q := by
  have bad : ¬ (okR r ∧ okB b) → Q (-2) σ := fun z => by
    unfold oRead at hq
    rw [pit_neg z] at hq
    exact hq σ Ag.rf C
  refine eX8_read (sp_mReel hr (fun r0 r6 => sp_mBase hb (fun b0 b3 => ⟨⟨b0, b3⟩, ?_⟩) (fun z => bad (by omega))) (fun z => bad (by omega)))
  clear bad
  obtain ⟨B, M⟩ := mbase_facts W C b0 b3
  have h43 := B.h43
  have wt := W.2.2.2.2.1
  unfold oRead at hq
  rw [pit_pos ⟨by omega, by omega⟩] at hq
  have pb := ps_b (t := aT α) (z := aTZ α) (H := aH α b.toNat) 100 0 [] (by omega) wt.1
  rw [M.2.1]
  refine sp_reads C.2.2.2.1 wt.1 wt.2.1 wt.2.2 h43 (fun τ A1 f1 f2 => ?_)
  have A2 : Fr (fun a j => WK a j ∧ a ≠ 92 ∧ ¬ (a = 72 ∧ j = 23)) σ (sI τ 72 23 0) := (A1.mono (fun a j x => ⟨fun z => x.1.2.1 ⟨by omega, by omega⟩, fun z => x.1.2.2.2 ⟨z.1, by omega⟩⟩)).trans (fr_sI (by omega) (fun a j x => by omega))
  have C2 : MAll (sI τ 72 23 0) (sT α 0 (aT α)) := C.tape W A2 ⟨gI_self _ _ _ _, fun i i0 i1 => by omega⟩
  have W2 : WF (sT α 0 (aT α)) := W.tape (Int.le_refl _) (by omega) (fun i i0 i1 => by omega)
  by_cases u : (ps (aT α) (aTZ α) (aH α b.toNat) 100 0 []).1 = -1
  · rw [if_pos u]
    rw [pit_pos u] at hq
    obtain ⟨g1, g2, g3⟩ := ps_fact W u
    have hN := f2 u
    refine ⟨fun _ => ?_, fun z => by omega⟩
    have lp : ∀ (m : Nat) (k : Int) (υ : ASt), 0 ≤ k → k + m = aH α b.toNat → Fr (fun a _ => a ≠ 80) (sI τ 72 23 0) υ → (∀ j : Int, 0 ≤ j → j < k → gI υ 80 j = tD (ps (aT α) (aTZ α) (aH α b.toNat) 100 0 []).2 j) → Wx K_X8_read (QI Q) 49 [(0, .ref 72), (1, .int (iI r)), (2, .int (iI b)), (3, .int (iI ((ps (aT α) (aTZ α) (aH α b.toNat) 100 0 []).2.length : Int))), (4, .int (iI k))] [] υ := by
      intro m
      induction m with
      | zero =>
        intro k υ k0 hk A3 hj
        have Mb := (mbase_facts W2 (C2.wk W2 (A3.mono (fun a j x => x.1))) b0 b3).2
        have e75 : gI υ 75 b = aH α b.toNat := Mb.2.1
        refine bX8_read_49 (by omega) (by omega) ⟨⟨b0, b3⟩, by rw [e75]; omega, fun _ => ?_, fun z => by rw [e75] at z; omega⟩
        exact sp_mfill W2 C2 (A3.mono (fun a j x => x.1)) r0 r6 b0 b3 g3 (fun j a c => hj j a (by have : j < aH α b.toNat := c; omega)) (fun ω A4 C4 => hq ω (A2.1.trans A4) C4)
      | succ m ih =>
        intro k υ k0 hk A3 hj
        have Mb := (mbase_facts W2 (C2.wk W2 (A3.mono (fun a j x => x.1))) b0 b3).2
        have e75 : gI υ 75 b = aH α b.toNat := Mb.2.1
        have nx : ∀ x : Int, x = tD (ps (aT α) (aTZ α) (aH α b.toNat) 100 0 []).2 k → Wx K_X8_read (QI Q) 49 [(0, .ref 72), (1, .int (iI r)), (2, .int (iI b)), (3, .int (iI ((ps (aT α) (aTZ α) (aH α b.toNat) 100 0 []).2.length : Int))), (4, .int (iI (k + 1)))] [] (sI υ 80 k x) := fun x hx => ih (k + 1) _ (by omega) (by omega) (A3.trans (fr_sI (by omega) (fun a j x => by omega))) (fun j a c => by
          by_cases e : j = k
          · rw [e, gI_self]; exact hx
          · rw [gI_ne _ _ _ e]; exact hj j a (by omega))
        refine bX8_read_49 (by omega) (by omega) ⟨⟨b0, b3⟩, by rw [e75]; omega, fun z => by rw [e75] at z; omega, fun _ => ⟨fun z => ⟨⟨k0, by omega⟩, nx 0 ?_⟩, fun z => ⟨⟨by omega, by omega⟩, ⟨k0, by omega⟩, nx _ ?_⟩⟩⟩
        · unfold tD
          rw [if_pos k0]
          simp [List.getD, List.getElem?_eq_none (show (ps (aT α) (aTZ α) (aH α b.toNat) 100 0 []).2.length ≤ k.toNat by omega)]
        · have e9 := hN ((ps (aT α) (aTZ α) (aH α b.toNat) 100 0 []).2.length - 1 - k.toNat) (by omega)
          rw [show ((((ps (aT α) (aTZ α) (aH α b.toNat) 100 0 []).2.length - 1 - k.toNat : Nat)) : Int) = ((ps (aT α) (aTZ α) (aH α b.toNat) 100 0 []).2.length : Int) - 1 - k by omega, show (ps (aT α) (aTZ α) (aH α b.toNat) 100 0 []).2.length - 1 - ((ps (aT α) (aTZ α) (aH α b.toNat) 100 0 []).2.length - 1 - k.toNat) = k.toNat by omega] at e9
          rw [A3.I (by omega), gI_na _ _ _ _ (by omega), e9]
          unfold tD
          rw [if_pos k0]
    exact lp (aH α b.toNat) 0 _ (by omega) (by omega) Fr.rf (fun j a c => by omega)
  · rw [if_neg u]
    rw [pit_neg u] at hq
    refine ⟨fun z => by omega, fun _ => ?_⟩
    rw [gI_ne _ _ _ (by omega), f1 u]
    exact ⟨by omega, hq _ A2.1 C2⟩
/-! deeds taken back -/
theorem M_back {σ : ASt} {α : AB} (W : WF α) (C : MAll σ α) {Q : Int → ASt → Prop} (hq : ∀ τ, MO σ τ → MAll τ (oBack α).2 → Q (oBack α).1 τ) : EvI K_X8_back [.ref 72] σ Q := by
  unfold oBack at hq
  have hl := C.2.2.1.1
  have h12 := C.2.2.1.2.1
  refine eX8_back ⟨by rw [hl]; omega, fun q => ?_, fun q => ?_⟩
  · rw [hl] at q ⊢
    have q' : (aL α).length ≠ 0 := by omega
    rw [pit_neg q'] at hq
    have w := W.2.2.2.1 _ (lastD_mem q')
    have e := C.2.2.1.2.2 _ _ (lastD_at q')
    rw [show (((aL α).length - 1 : Nat) : Int) = ((aL α).length : Int) - 1 by omega] at e
    have D0 := C.2.2.2.2.2.2
    have h43 : rH α (lastD (aL α)).1 ≤ 43 := rH43 W w.1 w.2.1 w.2.2.1
    have A1 : Fr (fun a j => ¬ (a = 72 ∧ j = 10)) σ (sI σ 72 10 (((aL α).length : Int) - 1)) := fr_sI (by omega) (fun a j x => x)
    have lp : ∀ (m : Nat) (k : Int) (τ : ASt), 0 ≤ k → k + m = 50 → Fr (fun a j => ¬ (a = 79 ∧ 50 * (lastD (aL α)).1 ≤ j ∧ j < 50 * (lastD (aL α)).1 + 50)) (sI σ 72 10 (((aL α).length : Int) - 1)) τ → (∀ j : Int, 0 ≤ j → j < k → gI τ 79 (50 * (lastD (aL α)).1 + j) = gI σ 82 (50 * (((aL α).length : Int) - 1) + j)) → Wx K_X8_back (QI Q) 22 [(0, .ref 72), (1, .int (iI k))] [] τ := by
      intro m
      induction m with
      | zero =>
        intro k τ k0 hk A2 hj
        have e10 : gI τ 72 10 = ((aL α).length : Int) - 1 := by rw [A2.I (by omega), gI_self]
        refine bX8_back_22 (by omega) ⟨fun _ => ?_, fun z => by omega⟩
        rw [e10]
        have A3 : Fr (fun a j => ¬ (a = 79 ∧ 50 * (lastD (aL α)).1 ≤ j ∧ j < 50 * (lastD (aL α)).1 + 50) ∧ ¬ (a = 72 ∧ j = 10)) σ τ := (A1.mono (fun a j x => x.2)).trans (A2.mono (fun a j x => x.1))
        have M0 : MR σ (lastD (aL α)).1 (rB α (lastD (aL α)).1) (rD α (lastD (aL α)).1) (rH α (lastD (aL α)).1) := C.2.1 _ w.1 w.2.1
        refine ⟨by omega, hq τ A3.1 (C.fill W w.1 w.2.1 (A3.mono (fun a j x => ⟨x.1.2.1, x.1.2.2.2.2⟩)) ⟨(A3.I (by omega)).trans M0.1, fun _ i i0 i1 => ?_⟩ ⟨?_, ?_, fun j x hx => ⟨?_, fun i i0 i1 => ?_⟩⟩ (fun j a => ⟨fun c => ?_, fun c => ?_, fun c => ?_⟩))⟩
        · have i1' : i < rH α (lastD (aL α)).1 := i1
          rw [hj i i0 (by omega)]; exact e.2 i i0 i1'
        · rw [e10, List.length_dropLast]; omega
        · rw [List.length_dropLast]; omega
        · rw [A3.I (by omega)]; exact (C.2.2.1.2.2 j x (dropLast_at hx)).1
        · rw [A3.I (by omega)]
          refine (C.2.2.1.2.2 j x (dropLast_at hx)).2 i i0 ?_
          rw [rH_sR] at i1
          by_cases y : x.1.toNat = (lastD (aL α)).1.toNat
          · rw [if_pos y] at i1
            show i < (aH α (aB α x.1.toNat).toNat : Int)
            rw [y]; exact i1
          · rw [if_neg y] at i1; exact i1
        · by_cases y : 50 * (lastD (aL α)).1 ≤ j ∧ j < 50 * (lastD (aL α)).1 + 50
          · have := hj (j - 50 * (lastD (aL α)).1) (by omega) (by omega)
            rw [show 50 * (lastD (aL α)).1 + (j - 50 * (lastD (aL α)).1) = j by omega] at this
            rw [this]; exact (D0 _ (by omega)).2.1 (by omega)
          · rw [A3.I (by omega)]; exact (D0 j a).1 c
        · rw [A3.I (by omega)]; exact (D0 j a).2.1 c
        · rw [A3.I (by omega)]; exact (D0 j a).2.2 c
      | succ m ih =>
        intro k τ k0 hk A2 hj
        have e10 : gI τ 72 10 = ((aL α).length : Int) - 1 := by rw [A2.I (by omega), gI_self]
        have e81 : gI τ 81 (((aL α).length : Int) - 1) = (lastD (aL α)).1 := by rw [A2.I (by omega), A1.I (by omega)]; exact e.1
        have e82 : gI τ 82 (50 * (((aL α).length : Int) - 1) + k) = gI σ 82 (50 * (((aL α).length : Int) - 1) + k) := by rw [A2.I (by omega), A1.I (by omega)]
        refine bX8_back_22 (by omega) ⟨fun z => by omega, fun _ => ?_⟩
        rw [e10, e81, e82]
        refine ⟨⟨by omega, by omega⟩, ⟨by omega, by omega⟩, ⟨by omega, by omega⟩, ih (k + 1) _ (by omega) (by omega) (A2.trans (fr_sI (by omega) (fun a j x => by omega))) (fun j a c => ?_)⟩
        by_cases z : j = k
        · rw [z, gI_self]
        · rw [gI_ne _ _ _ (by omega)]; exact hj j a (by omega)
    exact lp 50 0 _ (by omega) (by omega) Fr.rf (fun j a c => by omega)
  · rw [hl] at q
    rw [pit_pos (by omega)] at hq
    exact hq σ Ag.rf C
/-! rows -/
theorem MAll.row {σ τ : ASt} {α : AB} (W : WF α) (C : MAll σ α) {w : Int} (w0 : 0 ≤ w) (w3 : w < 3) {z : Int} {it : Int → Int} (H : Fr (fun a j => WK a j ∧ ¬ (a = 93 ∧ j = w) ∧ ¬ (a = 94 ∧ j = w) ∧ ¬ (a = 95 ∧ 60 * w ≤ j ∧ j < 60 * w + 60)) σ τ) (h : MW τ w z it) : MAll τ (sW α w.toNat z it) := by
  obtain ⟨c1, c2, c3, c4, c5, c6, c7⟩ := C
  refine ⟨fun i a b => (c1 i a b).fr H (fun a j x y => ⟨wk_ar (by omega), by omega, by omega, by omega⟩), fun r a b => (c2 r a b).fr H (fun q => rH43 W a b q) ⟨wk_ar (by omega), by omega, by omega, by omega⟩ (fun j _ _ => ⟨wk_ar (by omega), by omega, by omega, by omega⟩), c3.fr H ⟨wk_72 (by omega), by omega, by omega, by omega⟩ (fun j => ⟨wk_ar (by omega), by omega, by omega, by omega⟩) (fun j => ⟨wk_ar (by omega), by omega, by omega, by omega⟩), c4.fr H ⟨wk_72 (by omega), by omega, by omega, by omega⟩ (fun j => ⟨wk_ar (by omega), by omega, by omega, by omega⟩), fun p a b => ?_, c6.fr H ⟨wk_72 (by omega), by omega, by omega, by omega⟩ (fun a j _ _ => ⟨wk_ar (by omega), by omega, by omega, by omega⟩), c7.fr H (fun j => ⟨wk_ar (by omega), by omega, by omega, by omega⟩) (fun j => ⟨wk_ar (by omega), by omega, by omega, by omega⟩) (fun j => ⟨wk_ar (by omega), by omega, by omega, by omega⟩)⟩
  show MW τ p (up1 (aZ α) w.toNat z p.toNat) (up1 (aI α) w.toNat it p.toNat)
  by_cases e : p = w
  · rw [e, up1_self, up1_self]; exact h
  · rw [up1_ne _ _ (by omega), up1_ne _ _ (by omega)]
    exact (c5 p a b).fr H ⟨wk_ar (by omega), by omega, by omega, by omega⟩ ⟨wk_ar (by omega), by omega, by omega, by omega⟩ (fun j _ _ => ⟨wk_ar (by omega), by omega, by omega, by omega⟩)
theorem mrow_facts {σ : ASt} {α : AB} (W : WF α) (C : MAll σ α) {w : Int} (w0 : 0 ≤ w) (w3 : w < 3) : MW σ w (aZ α w.toNat) (aI α w.toNat) ∧ (-1 ≤ aZ α w.toNat ∧ aZ α w.toNat ≤ 60) ∧ (∀ k : Int, 0 ≤ k → k < 60 → i64 (aI α w.toNat k)) := by
  have := W.2.2.2.2.2 w.toNat (by omega)
  exact ⟨C.2.2.2.2.1 w w0 w3, ⟨this.1, this.2.1⟩, this.2.2⟩
theorem M_row {σ : ASt} {α : AB} (W : WF α) (C : MAll σ α) {w n : Int} (hw : i32 w) (hn : i32 n) {Q : Int → ASt → Prop} (hq : ∀ τ, MO σ τ → MAll τ (oRow α w n).2 → Q (oRow α w n).1 τ) : EvI K_X8_row [.ref 72, .int (iI w), .int (iI n)] σ Q := by
  unfold oRow at hq
  refine eX8_row hn (sp_mRow hw (fun w0 w3 => ⟨fun a => ⟨fun b => ?_, fun b => ?_⟩, fun a => ?_⟩) (fun q => by rw [pit_neg (by omega)] at hq; exact hq σ Ag.rf C))
  · rw [pit_pos (by omega), pit_pos b] at hq
    have lp : ∀ (m : Nat) (k : Int) (x y : Int) (τ : ASt), (n = -1 → x = 0) → (0 ≤ n → x = 1 ∧ y = n) → 0 ≤ k → k + m = 60 → Fr (fun a j => ¬ (a = 95 ∧ 60 * w ≤ j ∧ j < 60 * w + 60)) (sI (sI σ 93 w x) 94 w y) τ → (∀ j : Int, 0 ≤ j → j < k → gL τ 95 (60 * w + j) = 0) → Wx K_X8_row (QI Q) 56 [(0, .ref 72), (1, .int (iI w)), (3, .int (iI k))] [] τ := by
      intro m
      induction m with
      | zero =>
        intro k x y τ h1 h2 k0 hk A2 hj
        have A1 : Fr (fun a j => ¬ (a = 93 ∧ j = w) ∧ ¬ (a = 94 ∧ j = w)) σ (sI (sI σ 93 w x) 94 w y) := (fr_sI (by omega) (fun a j x => x.1)).trans (fr_sI (by omega) (fun a j x => x.2))
        have e93 : gI τ 93 w = x := by rw [A2.I (by omega), gI_na _ _ _ _ (by omega), gI_self]
        have e94 : gI τ 94 w = y := by rw [A2.I (by omega), gI_self]
        refine bX8_row_56 (by omega) ⟨fun _ => hq τ (A1.1.trans A2.1) (C.row W w0 w3 ((A1.mono (fun a j x => ⟨x.2.1, x.2.2.1⟩)).trans (A2.mono (fun a j x => x.2.2.2))) ⟨fun g => by rw [e93]; exact h1 g, fun g => by rw [e93, e94]; exact h2 g, fun j j0 j1 => hj j j0 (by omega)⟩), fun z => by omega⟩
      | succ m ih =>
        intro k x y τ h1 h2 k0 hk A2 hj
        refine bX8_row_56 (by omega) ⟨fun z => by omega, fun _ => ⟨⟨by omega, by omega⟩, ih (k + 1) x y _ h1 h2 (by omega) (by omega) (A2.trans (fr_sL (by omega) (fun a j x => by omega))) (fun j a c => ?_)⟩⟩
        by_cases z : j = k
        · rw [z, gL_self]
        · rw [gL_ne _ _ _ (by omega)]; exact hj j a (by omega)
    refine ⟨fun g => ⟨⟨w0, w3⟩, fun g2 => by omega, fun _ => lp 60 0 0 0 _ (fun _ => rfl) (fun z => by omega) (by omega) (by omega) Fr.rf (fun j a c => by omega)⟩, fun g => ⟨⟨w0, w3⟩, fun _ => lp 60 0 1 n _ (fun z => by omega) (fun _ => ⟨rfl, rfl⟩) (by omega) (by omega) Fr.rf (fun j a c => by omega), fun z => by omega⟩⟩
  · rw [pit_pos (by omega), pit_neg (by omega)] at hq; exact hq σ Ag.rf C
  · rw [pit_neg (by omega)] at hq; exact hq σ Ag.rf C
/-- told apart by the row's mark -/
theorem MW.mark {σ : ASt} {w z : Int} {it : Int → Int} (M : MW σ w z it) (hz : -1 ≤ z ∧ z ≤ 60) : i32 (gI σ 93 w) ∧ (gI σ 93 w = 0 ↔ z = -1) := by
  rcases Int.lt_or_le z 0 with q | q
  · rw [M.1 (by omega)]; omega
  · rw [(M.2.1 q).1]; omega
theorem M_put {σ : ASt} {α : AB} (W : WF α) (C : MAll σ α) {w i v : Int} (hw : i32 w) (hi : i32 i) {Q : Int → ASt → Prop} (hq : ∀ τ, MO σ τ → MAll τ (oPut α w i v).2 → Q (oPut α w i v).1 τ) : EvI K_X8_put [.ref 72, .int (iI w), .int (iI i), .long (lI v)] σ Q := by
  unfold oPut at hq
  refine eX8_put hi (sp_mRow hw (fun w0 w3 => ?_) (fun q => by rw [pit_neg (by omega)] at hq; exact hq σ Ag.rf C))
  obtain ⟨M, hz, hi64⟩ := mrow_facts W C w0 w3
  have mk := M.mark hz
  rw [pit_pos (by omega)] at hq
  refine ⟨⟨w0, w3⟩, mk.1, fun q => ?_, fun q => by rw [pit_pos (mk.2.mp q)] at hq; exact hq σ Ag.rf C⟩
  have z0 : ¬ aZ α w.toNat = -1 := fun g => q (mk.2.mpr g)
  rw [pit_neg z0] at hq
  have m2 := M.2.1 (by omega)
  rw [m2.2]
  refine ⟨by omega, sp_in (by omega) (by omega) (by omega) (fun a b => ⟨⟨by omega, by omega⟩, ?_⟩) (fun g => by rw [pit_neg (by omega)] at hq; exact hq σ Ag.rf C)⟩
  rw [pit_pos (by omega)] at hq
  have A1 : Fr (fun a j => ¬ (a = 95 ∧ j = 60 * w + i)) σ (sL σ 95 (60 * w + i) v) := fr_sL (by omega) (fun a j x => x)
  refine hq _ A1.1 (C.row W w0 w3 (A1.mono (fun a j x => by omega)) ⟨fun g => absurd g z0, fun g => ?_, fun k k0 k1 => ?_⟩)
  · rw [A1.I (by omega), A1.I (by omega)]; exact m2
  · unfold st1
    by_cases e : k = i
    · rw [e, gL_self, if_pos rfl]
    · rw [gL_ne _ _ _ (by omega), if_neg e]; exact M.2.2 k k0 k1
theorem M_get {σ : ASt} {α : AB} (W : WF α) (C : MAll σ α) {w i : Int} (hw : i32 w) (hi : i32 i) {Q : Int → ASt → Prop} (hq : Q (oGet α w i) σ) : EvL K_X8_get [.ref 72, .int (iI w), .int (iI i)] σ Q := by
  unfold oGet at hq
  refine eX8_get hi (sp_mRow hw (fun w0 w3 => ?_) (fun q => by rw [pit_neg (by omega)] at hq; exact hq))
  obtain ⟨M, hz, hi64⟩ := mrow_facts W C w0 w3
  have mk := M.mark hz
  refine ⟨⟨w0, w3⟩, mk.1, fun q => by rw [pit_neg (by have := mk.2.mp q; omega)] at hq; exact hq, fun q => ?_⟩
  have z0 : ¬ aZ α w.toNat = -1 := fun g => q (mk.2.mpr g)
  have m2 := M.2.1 (by omega)
  rw [m2.2]
  refine ⟨by omega, sp_in (by omega) (by omega) (by omega) (fun a b => ⟨⟨by omega, by omega⟩, ?_⟩) (fun g => by rw [pit_neg (by omega)] at hq; exact hq)⟩
  rw [pit_pos (by omega)] at hq
  rw [M.2.2 i a (by omega)]
  exact ⟨hi64 i a (by omega), hq⟩
theorem M_copy {σ : ASt} {α : AB} (W : WF α) (C : MAll σ α) {w i u j n : Int} (hw : i32 w) (hi : i32 i) (hu : i32 u) (hj : i32 j) (hn : i32 n) {Q : Int → ASt → Prop} (hq : ∀ τ, MO σ τ → MAll τ (oCopy α w i u j n).2 → Q (oCopy α w i u j n).1 τ) : EvI K_X8_copy [.ref 72, .int (iI w), .int (iI i), .int (iI u), .int (iI j), .int (iI n)] σ Q := by
  have bad : ¬ (okB w ∧ okB u) → Q (-2) σ := fun z => by
    unfold oCopy at hq
    rw [pit_neg z] at hq
    exact hq σ Ag.rf C
  refine eX8_copy hi hj hn (sp_mRow hw (fun w0 w3 => sp_mRow hu (fun u0 u3 => ?_) (fun z => bad (by omega))) (fun z => bad (by omega)))
  clear bad
  obtain ⟨M, hz, hi64⟩ := mrow_facts W C w0 w3
  obtain ⟨M', hz', hi64'⟩ := mrow_facts W C u0 u3
  have mk := M.mark hz
  have mk' := M'.mark hz'
  unfold oCopy at hq
  rw [pit_pos ⟨by omega, by omega⟩] at hq
  refine ⟨⟨w0, w3⟩, mk.1, fun q => by rw [pit_pos (Or.inl (mk.2.mp q))] at hq; exact hq σ Ag.rf C, fun q => ⟨⟨u0, u3⟩, mk'.1, fun q' => ?_, fun q' => by rw [pit_pos (Or.inr (mk'.2.mp q'))] at hq; exact hq σ Ag.rf C⟩⟩
  have z0 : ¬ aZ α w.toNat = -1 := fun g => q (mk.2.mpr g)
  have z0' : ¬ aZ α u.toNat = -1 := fun g => q' (mk'.2.mpr g)
  have m2 := M.2.1 (by omega)
  have m2' := M'.2.1 (by omega)
  rw [pit_neg (by omega)] at hq
  have no : ¬ ((0 ≤ i ∧ 0 ≤ n ∧ i + n ≤ aZ α w.toNat) ∧ (0 ≤ j ∧ 0 ≤ n ∧ j + n ≤ aZ α u.toNat)) → Q (-12) σ := fun z => by
    rw [pit_neg z] at hq; exact hq σ Ag.rf C
  refine ⟨fun g => no (by omega), fun g => ⟨fun g1 => no (by omega), fun g1 => ⟨fun g2 => no (by omega), fun g2 => ?_⟩⟩⟩
  rw [m2.2]
  refine ⟨by omega, by omega, fun g3 => no (by omega), fun g3 => ?_⟩
  rw [m2'.2]
  refine ⟨by omega, by omega, fun g4 => ?_, fun g4 => no (by omega)⟩
  clear no
  rw [pit_pos ⟨⟨g1, g, g3⟩, ⟨g2, g, g4⟩⟩] at hq
  have lp2 : ∀ (υ : ASt), Fr (fun a _ => a ≠ 96) σ υ → (∀ k : Int, 0 ≤ k → k < n → gL υ 96 k = aI α w.toNat (i + k)) → ∀ (m : Nat) (k : Int) (τ : ASt), 0 ≤ k → k + m = n → Fr (fun a x => ¬ (a = 95 ∧ 60 * u ≤ x ∧ x < 60 * u + 60)) υ τ → (∀ x : Int, 0 ≤ x → x < 60 → gL τ 95 (60 * u + x) = if j ≤ x ∧ x < j + k then aI α w.toNat (i + (x - j)) else aI α u.toNat x) → Wx K_X8_copy (QI Q) 130 [(0, .ref 72), (3, .int (iI u)), (4, .int (iI j)), (5, .int (iI n)), (6, .int (iI k))] [] τ := by
    intro υ A1 h96 m
    induction m with
    | zero =>
      intro k τ k0 hk A2 hx
      have A3 : Fr (fun a x => a ≠ 96 ∧ ¬ (a = 95 ∧ 60 * u ≤ x ∧ x < 60 * u + 60)) σ τ := (A1.mono (fun a j x => x.1)).trans (A2.mono (fun a j x => x.2))
      refine bX8_copy_130 (by omega) (by omega) ⟨fun _ => hq τ A3.1 (C.row W u0 u3 (A3.mono (fun a j x => ⟨x.1.2.2.1, x.2.2.2⟩)) ⟨fun y => absurd y z0', fun y => ?_, fun x x0 x1 => ?_⟩), fun z => by omega⟩
      · rw [A3.I (by omega), A3.I (by omega)]; exact m2'
      · rw [hx x x0 x1]
        unfold cpy
        rw [show k = n by omega]
    | succ m ih =>
      intro k τ k0 hk A2 hx
      have e96 : gL τ 96 k = aI α w.toNat (i + k) := (A2.L (by omega)).trans (h96 k k0 (by omega))
      refine bX8_copy_130 (by omega) (by omega) ⟨fun z => by omega, fun _ => ⟨⟨k0, by omega⟩, ⟨by omega, by omega⟩, ih (k + 1) _ (by omega) (by omega) (A2.trans (fr_sL (by omega) (fun a j x => by omega))) (fun x x0 x1 => ?_)⟩⟩
      by_cases z : x = j + k
      · rw [z, if_pos (by omega), show 60 * u + (j + k) = 60 * u + j + k by omega, gL_self, e96, show i + (j + k - j) = i + k by omega]
      · rw [gL_ne _ _ _ (by omega), hx x x0 x1]
        by_cases z2 : j ≤ x ∧ x < j + k
        · rw [if_pos z2, if_pos (by omega)]
        · rw [if_neg z2, if_neg (by omega)]
  have lp1 : ∀ (m : Nat) (k : Int) (τ : ASt), 0 ≤ k → k + m = n → Fr (fun a _ => a ≠ 96) σ τ → (∀ x : Int, 0 ≤ x → x < k → gL τ 96 x = aI α w.toNat (i + x)) → Wx K_X8_copy (QI Q) 93 [(0, .ref 72), (1, .int (iI w)), (2, .int (iI i)), (3, .int (iI u)), (4, .int (iI j)), (5, .int (iI n)), (6, .int (iI k))] [] τ := by
    intro m
    induction m with
    | zero =>
      intro k τ k0 hk A2 hx
      exact bX8_copy_93 (by omega) (by omega) ⟨fun _ => lp2 τ A2 (fun x a c => hx x a (by omega)) n.toNat 0 τ (by omega) (by omega) Fr.rf (fun x x0 x1 => by rw [if_neg (by omega), A2.L (by omega)]; exact M'.2.2 x x0 x1), fun z => by omega⟩
    | succ m ih =>
      intro k τ k0 hk A2 hx
      have e95 : gL τ 95 (60 * w + i + k) = aI α w.toNat (i + k) := by
        rw [A2.L (by omega), show 60 * w + i + k = 60 * w + (i + k) by omega]; exact M.2.2 (i + k) (by omega) (by omega)
      refine bX8_copy_93 (by omega) (by omega) ⟨fun z => by omega, fun _ => ⟨⟨by omega, by omega⟩, ⟨k0, by omega⟩, ih (k + 1) _ (by omega) (by omega) (A2.trans (fr_sL (by omega) (fun a j x => by omega))) (fun x a c => ?_)⟩⟩
      by_cases z : x = k
      · rw [z, gL_self, e95]
      · rw [gL_ne _ _ _ z]; exact hx x a (by omega)
  exact lp1 n.toNat 0 σ (by omega) (by omega) Fr.rf (fun x a c => by omega)
theorem M_lay {σ : ASt} {α : AB} (W : WF α) (C : MAll σ α) {r b w : Int} (hr : i32 r) (hb : i32 b) (hw : i32 w) {Q : Int → ASt → Prop} (hq : ∀ τ, MO σ τ → MAll τ (oLay α r b w).2 → Q (oLay α r b w).1 τ) : EvI K_X8_lay [.ref 72, .int (iI r), .int (iI b), .int (iI w)] σ Q := by
  have bad : ¬ (okR r ∧ okB b ∧ okB w) → Q (-2) σ := fun z => by
    unfold oLay at hq
    rw [pit_neg z] at hq
    exact hq σ Ag.rf C
  refine eX8_lay (sp_mReel hr (fun r0 r6 => sp_mBase hb (fun b0 b3 => sp_mRow hw (fun w0 w3 => ⟨⟨w0, w3⟩, ?_⟩) (fun z => bad (by omega))) (fun z => bad (by omega))) (fun z => bad (by omega)))
  clear bad
  obtain ⟨B, MM⟩ := mbase_facts W C b0 b3
  have h43 := B.h43
  obtain ⟨M, hz, hi64⟩ := mrow_facts W C w0 w3
  have mk := M.mark hz
  unfold oLay at hq
  rw [pit_pos ⟨by omega, by omega, by omega⟩] at hq
  refine ⟨mk.1, fun q => ⟨⟨b0, b3⟩, ?_⟩, fun q => by rw [pit_pos (mk.2.mp q)] at hq; exact hq σ Ag.rf C⟩
  have z0 : ¬ aZ α w.toNat = -1 := fun g => q (mk.2.mpr g)
  have m2 := M.2.1 (by omega)
  rw [pit_neg z0] at hq
  rw [m2.2, MM.2.1]
  refine ⟨by omega, by omega, fun g => ?_, fun g => by rw [pit_neg (fun x => by have := x.1; omega)] at hq; exact hq σ Ag.rf C⟩
  have lp2 : (∀ k : Int, 0 ≤ k → k < aZ α w.toNat → 0 ≤ aI α w.toNat k ∧ aI α w.toNat k ≤ 99) → ∀ (m : Nat) (k : Int) (τ : ASt), 0 ≤ k → k + m = aH α b.toNat → Fr (fun a _ => a ≠ 80) σ τ → (∀ x : Int, 0 ≤ x → x < k → gI τ 80 x = lay (aZ α w.toNat) (aI α w.toNat) x) → Wx K_X8_lay (QI Q) 102 [(0, .ref 72), (1, .int (iI r)), (2, .int (iI b)), (3, .int (iI w)), (4, .int (iI k))] [] τ := by
    intro hk m
    rw [pit_pos ⟨g, hk⟩] at hq
    have D3 := lay_DOK g hk
    induction m with
    | zero =>
      intro k τ k0 hm A2 hx
      have e75 : gI τ 75 b = aH α b.toNat := (A2.I (by omega)).trans MM.2.1
      refine bX8_lay_102 (by omega) ⟨⟨b0, b3⟩, by rw [e75]; omega, fun _ => ?_, fun z => by rw [e75] at z; omega⟩
      exact sp_mfill W C (A2.mono (fun a j x => x.1)) r0 r6 b0 b3 D3 (fun x a c => hx x a (by omega)) hq
    | succ m ih =>
      intro k τ k0 hm A2 hx
      have e75 : gI τ 75 b = aH α b.toNat := (A2.I (by omega)).trans MM.2.1
      have e94 : gI τ 94 w = aZ α w.toNat := (A2.I (by omega)).trans m2.2
      have nx : ∀ y : Int, y = lay (aZ α w.toNat) (aI α w.toNat) k → Wx K_X8_lay (QI Q) 102 [(0, .ref 72), (1, .int (iI r)), (2, .int (iI b)), (3, .int (iI w)), (4, .int (iI (k + 1)))] [] (sI τ 80 k y) := fun y hy => ih (k + 1) _ (by omega) (by omega) (A2.trans (fr_sI (by omega) (fun a j x => by omega))) (fun x a c => by
        by_cases e : x = k
        · rw [e, gI_self]; exact hy
        · rw [gI_ne _ _ _ e]; exact hx x a (by omega))
      refine bX8_lay_102 (by omega) ⟨⟨b0, b3⟩, by rw [e75]; omega, fun z => by rw [e75] at z; omega, fun _ => ⟨⟨w0, w3⟩, by rw [e94]; omega, fun z => ⟨⟨k0, by omega⟩, nx 0 ?_⟩, fun z => ⟨⟨by omega, by omega⟩, ⟨k0, by omega⟩, nx _ ?_⟩⟩⟩
      · rw [e94] at z
        unfold lay; rw [if_neg (by omega)]
      · rw [e94] at z
        unfold lay; rw [if_pos ⟨k0, z⟩, A2.L (by omega)]; exact M.2.2 k k0 (by omega)
  have lp1 : ∀ (m : Nat) (k : Int), 0 ≤ k → k + m = aZ α w.toNat → (∀ x : Int, 0 ≤ x → x < k → 0 ≤ aI α w.toNat x ∧ aI α w.toNat x ≤ 99) → Wx K_X8_lay (QI Q) 57 [(0, .ref 72), (1, .int (iI r)), (2, .int (iI b)), (3, .int (iI w)), (4, .int (iI k))] [] σ := by
    intro m
    induction m with
    | zero =>
      intro k k0 hk hx
      refine bX8_lay_57 (by omega) ⟨⟨w0, w3⟩, by rw [m2.2]; omega, fun _ => lp2 (fun x a c => hx x a (by omega)) (aH α b.toNat) 0 σ (by omega) (by omega) Fr.rf (fun x a c => by omega), fun z => by rw [m2.2] at z; omega⟩
    | succ m ih =>
      intro k k0 hk hx
      have ik := hi64 k k0 (by omega)
      refine bX8_lay_57 (by omega) ⟨⟨w0, w3⟩, by rw [m2.2]; omega, fun z => by rw [m2.2] at z; omega, fun _ => ⟨⟨by omega, by omega⟩, ?_⟩⟩
      rw [M.2.2 k k0 (by omega)]
      refine sp_in ik (by omega) (by omega) (fun a1 a2 => ih (k + 1) (by omega) (by omega) (fun x a c => ?_)) (fun y => ?_)
      · by_cases e : x = k
        · rw [e]; exact ⟨a1, a2⟩
        · exact hx x a (by omega)
      · rw [pit_neg (fun x => by have := x.2 k k0 (by omega); omega)] at hq
        exact hq σ Ag.rf C
  exact lp1 (aZ α w.toNat).toNat 0 (by omega) (by omega) (fun x a c => by omega)
theorem M_film {σ : ASt} {α : AB} (W : WF α) (C : MAll σ α) {r w : Int} (hr : i32 r) (hw : i32 w) {Q : Int → ASt → Prop} (hq : ∀ τ, MO σ τ → MAll τ (oFilm α r w).2 → Q (oFilm α r w).1 τ) : EvI K_X8_film [.ref 72, .int (iI r), .int (iI w)] σ Q := by
  have bad : ¬ (okR r ∧ okB w) → Q (-2) σ := fun z => by
    unfold oFilm at hq
    rw [pit_neg z] at hq
    exact hq σ Ag.rf C
  refine eX8_film (sp_mReel hr (fun r0 r6 => sp_mRow hw (fun w0 w3 => ?_) (fun z => bad (by omega))) (fun z => bad (by omega)))
  clear bad
  unfold oFilm at hq
  rw [pit_pos ⟨by omega, by omega⟩] at hq
  refine sp_mEmpty W C.2.1 r0 r6 (fun hb => by rw [pit_pos hb] at hq; exact hq σ Ag.rf C) (fun hb b0 b2 => ?_)
  rw [pit_neg hb] at hq
  obtain ⟨B, D, R⟩ := mreel_facts W C r0 r6 b0 b2
  have h43 := B.h43
  refine R.high B r0 r6 b0 b2 (M_row W C hw (by omega) (fun τ A1 C1 => ?_))
  have eo : oRow α w (rH α r) = (1, sW α w.toNat (rH α r) (fun _ => 0)) := by unfold oRow; rw [pit_pos (by omega), pit_pos (by omega)]
  rw [eo] at C1
  have W1 : WF (sW α w.toNat (rH α r) (fun _ => 0)) := W.row (by omega) (by omega) (fun k _ _ => by omega)
  obtain ⟨B1, D1, R1⟩ := mreel_facts (α := sW α w.toNat (rH α r) (fun _ => 0)) W1 C1 r0 r6 b0 b2
  have R1' : RR τ r (rB α r) (rS α r) (rN α r) (rH α r) (rD α r) := R1
  have M1 := (mrow_facts W1 C1 w0 w3).1
  have eZ : aZ (sW α w.toNat (rH α r) (fun _ => 0)) w.toNat = rH α r := up1_self _ _ _
  have eI : aI (sW α w.toNat (rH α r) (fun _ => 0)) w.toNat = fun _ => 0 := up1_self _ _ _
  rw [eZ, eI] at M1
  have lp : ∀ (m : Nat) (k : Int) (υ : ASt), 0 ≤ k → k + m = rH α r → Fr (fun a j => ¬ (a = 95 ∧ 60 * w ≤ j ∧ j < 60 * w + 60)) τ υ → (∀ j : Int, 0 ≤ j → j < 60 → gL υ 95 (60 * w + j) = if j < k then rD α r j else 0) → Wx K_X8_film (QI Q) 42 [(0, .ref 72), (1, .int (iI r)), (2, .int (iI w)), (4, .int (iI k))] [] υ := by
    intro m
    induction m with
    | zero =>
      intro k υ k0 hk A2 hj
      have R2 := R1'.fr A2 h43 (fun a j x y => by omega) (by omega) (fun j _ _ => by omega)
      refine bX8_film_42 (by omega) (R2.high B r0 r6 b0 b2 ⟨fun _ => R2.high B r0 r6 b0 b2 ?_, fun z => by omega⟩)
      have C3 : MAll υ (sW (sW α w.toNat (rH α r) (fun _ => 0)) w.toNat (rH α r) (rD α r)) := C1.row W1 w0 w3 (A2.mono (fun a j x => x.2.2.2)) ⟨fun g => by omega, fun g => by
        rw [A2.I (by omega), A2.I (by omega)]; exact M1.2.1 g, fun j j0 j1 => by
        rw [hj j j0 j1]
        by_cases e : j < k
        · rw [if_pos e]
        · rw [if_neg e, D.2 j (by omega)]⟩
      have e3 : sW (sW α w.toNat (rH α r) (fun _ => 0)) w.toNat (rH α r) (rD α r) = sW α w.toNat (rH α r) (rD α r) := by
        have u : ∀ {β : Type} (f : Nat → β) (x y : β), up1 (up1 f w.toNat x) w.toNat y = up1 f w.toNat y := fun f x y => by
          funext q
          by_cases e : q = w.toNat
          · rw [e, up1_self, up1_self]
          · rw [up1_ne _ _ e, up1_ne _ _ e, up1_ne _ _ e]
        show (aS α, aN α, aH α, aB α, aD α, aL α, aTZ α, aT α, up1 (up1 (aZ α) w.toNat (rH α r : Int)) w.toNat (rH α r : Int), up1 (up1 (aI α) w.toNat (fun _ => 0)) w.toNat (rD α r), aK α) = sW α w.toNat (rH α r) (rD α r)
        rw [u, u]; rfl
      rw [e3] at C3
      exact hq υ (A1.trans A2.1) C3
    | succ m ih =>
      intro k υ k0 hk A2 hj
      have R2 := R1'.fr A2 h43 (fun a j x y => by omega) (by omega) (fun j _ _ => by omega)
      refine bX8_film_42 (by omega) (R2.high B r0 r6 b0 b2 ⟨fun z => by omega, fun _ => R2.at B D.1 r0 r6 k0 (by omega) ⟨⟨by omega, by omega⟩, ih (k + 1) _ (by omega) (by omega) (A2.trans (fr_sL (by omega) (fun a j x => by omega))) (fun j j0 j1 => ?_)⟩⟩)
      by_cases e : j = k
      · rw [e, gL_self, if_pos (by omega)]
      · rw [gL_ne _ _ _ (by omega), hj j j0 j1]
        by_cases e2 : j < k
        · rw [if_pos e2, if_pos (by omega)]
        · rw [if_neg e2, if_neg (by omega)]
  exact lp (rH α r) 0 τ (by omega) (by omega) Fr.rf (fun j j0 j1 => by rw [if_neg (by omega)]; exact M1.2.2 j j0 j1)
theorem sp_full {σ : ASt} {α : AB} (W : WF α) (C : MRs σ α) {Q : Int → ASt → Prop} (hq : Q (cR α) σ) : EvI K_X8_full [.ref 72] σ Q := by
  have lp : ∀ (m : Nat) (k : Int), 0 ≤ k → k + m = 6 → Wx K_X8_full (QI Q) 4 [(0, .ref 72), (1, .int (iI (ct (fun r => aB α r.toNat + 1) k.toNat))), (2, .int (iI k))] [] σ := by
    intro m
    induction m with
    | zero =>
      intro k k0 hk
      have := ct_b (fun r => aB α r.toNat + 1) k.toNat
      refine bX8_full_4 (by omega) (by omega) ⟨fun _ => ?_, fun q => by omega⟩
      rw [show k.toNat = 6 by omega]; exact hq
    | succ m ih =>
      intro k k0 hk
      have := ct_b (fun r => aB α r.toNat + 1) k.toNat
      have nx := ih (k + 1) (by omega) (by omega)
      rw [ct_i k0] at nx
      have e : rB α k = aB α k.toNat := rfl
      refine bX8_full_4 (by omega) (by omega) ⟨fun q => by omega, fun _ => sp_mEmpty W C k0 (by omega) (fun hb => ?_) (fun hb b0 b2 => ?_)⟩
      · rw [if_pos (by omega)] at nx; exact nx
      · rw [if_neg (by omega)] at nx; exact nx
  exact eX8_full (lp 6 0 (by omega) (by omega))
theorem M_count {σ : ASt} {α : AB} (W : WF α) (C : MAll σ α) {w : Int} (hw : i32 w) {Q : Int → ASt → Prop} (hq : Q (oCount α w) σ) : EvI K_X8_count [.ref 72, .int (iI w)] σ Q := by
  unfold oCount at hq
  have h12 := C.2.2.1.2.1
  have wt := W.2.2.2.2.1
  refine eX8_count hw ⟨fun q => ?_, fun q => ?_, fun q => ?_, fun q => ?_, fun q => ?_⟩
  · rw [pit_pos q] at hq; exact sp_full W C.2.1 hq
  · rw [pit_neg (by omega), pit_pos q] at hq
    rw [C.2.2.1.1]
    exact ⟨by omega, hq⟩
  · rw [pit_neg (by omega), pit_neg (by omega), pit_pos q] at hq
    rw [C.2.2.2.1.1]
    exact ⟨by omega, hq⟩
  · rw [pit_neg (by omega), pit_neg (by omega), pit_neg (by omega), pit_pos q] at hq
    have lp : ∀ (m : Nat) (k : Int), 0 ≤ k → k + m = 3 → Wx K_X8_count (QI Q) 49 [(0, .ref 72), (2, .int (iI (ct (fun r => aZ α r.toNat + 1) k.toNat))), (3, .int (iI k))] [] σ := by
      intro m
      induction m with
      | zero =>
        intro k k0 hk
        have := ct_b (fun r => aZ α r.toNat + 1) k.toNat
        refine bX8_count_49 (by omega) (by omega) ⟨fun _ => ?_, fun q => by omega⟩
        rw [show k.toNat = 3 by omega]; exact hq
      | succ m ih =>
        intro k k0 hk
        have := ct_b (fun r => aZ α r.toNat + 1) k.toNat
        have nx := ih (k + 1) (by omega) (by omega)
        rw [ct_i k0] at nx
        obtain ⟨M, hz, hi64⟩ := mrow_facts W C k0 (by omega)
        have mk := M.mark hz
        refine bX8_count_49 (by omega) (by omega) ⟨fun q => by omega, fun _ => ⟨⟨k0, by omega⟩, mk.1, fun g => ?_, fun g => ?_⟩⟩
        · have := mk.2.mp g
          rw [if_pos (by omega)] at nx; exact nx
        · have : ¬ aZ α k.toNat = -1 := fun y => g (mk.2.mpr y)
          rw [if_neg (by omega)] at nx; exact nx
    exact lp 3 0 (by omega) (by omega)
  · rw [pit_neg (by omega), pit_neg (by omega), pit_neg (by omega), pit_neg (by omega)] at hq
    exact hq
