/-! ways: the reference's call -/
/-- the pairs that are done: rests i' < i0, and rest i0 with less than c0 times -/
def Pz (R : Int → Int) (n W i0 c0 : Int) (c r : Int) : Prop := ∃ i : Int, 0 ≤ i ∧ i < n ∧ (i < i0 ∨ (i = i0 ∧ c < c0)) ∧ R i = r + c * W
theorem M_ways {σ : ASt} {α : AB} (W : WF α) (C : MAll σ α) {b v m w : Int} (hb : i32 b) (hv : i64 v) (hm : i32 m) (hw : i32 w) {Q : Int → ASt → Prop} (hq : ∀ τ, MO σ τ → MAll τ α → Q (oWays α b v m w) τ) : EvL K_X8_ways [.ref 72, .int (iI b), .long (lI v), .int (iI m), .int (iI w)] σ Q := by
  have bad : ¬ (okB b ∧ (0 ≤ v ∧ v ≤ 1000000000) ∧ (1 ≤ m ∧ m ≤ 9) ∧ (0 ≤ w ∧ w ≤ 1)) → Q (-9223372036854775808) σ := fun z => by
    unfold oWays at hq
    rw [pit_neg z] at hq
    exact hq σ Ag.rf C
  refine eX8_ways hm hw (sp_mBase hb (fun b0 b3 => ?_) (fun q => bad (by omega)))
  refine sp_in (by omega) (by omega) (by omega) (fun v0 v1 => ?_) (fun q => bad (by omega))
  refine sp_in (by omega) (by omega) (by omega) (fun m1 m9 => ?_) (fun q => bad (by omega))
  refine sp_in (by omega) (by omega) (by omega) (fun w0 w1 => ?_) (fun q => bad (by omega))
  clear bad
  obtain ⟨B, M⟩ := mbase_facts W C b0 b3
  have b2 : b ≤ 2 := by omega
  unfold oWays at hq
  rw [pit_pos ⟨⟨b0, by omega⟩, ⟨v0, v1⟩, ⟨m1, m9⟩, ⟨w0, w1⟩⟩] at hq
  generalize hs' : aS α b.toNat = s at *
  generalize hh' : aH α b.toNat = h at *
  generalize hn' : aN α b.toNat = n0 at *
  have hs := B.s1
  have h43 := B.h43
  have h1 := B.2.2.2.2.1
  have cW : ∀ (k : Nat) (c : Int), k < h → 0 ≤ c → c ≤ m → 0 ≤ c * wo s k ∧ c * wo s k ≤ 9000000000 := fun k c hk a e => by
    have wk := wo_pos hs k
    have wk2 := B.2.2.2.2.2.1 k hk
    have e1 := Int.mul_nonneg a (show 0 ≤ wo s k by omega)
    have e2 : c * wo s k ≤ 9 * wo s k := Int.mul_le_mul_of_nonneg_right (by omega) (by omega)
    omega
  have srm : ∀ k : Nat, k ≤ h → 0 ≤ m * sumW s k ∧ m * sumW s k ≤ 387000000000 := fun k hk => by
    have a1 := sumW_nn hs k
    have a2 : sumW s k ≤ (k : Int) * 1000000000 := by
      have := sm_bound (f := fun j => wo s j.toNat) (M := 1000000000) (n := k) (fun i hi => by
        show 0 ≤ wo s (i : Int).toNat ∧ wo s (i : Int).toNat ≤ 1000000000
        rw [Int.toNat_natCast]
        have := wo_pos hs i
        have := B.2.2.2.2.2.1 i (by omega)
        omega)
      exact this.2
    have a3 : m * sumW s k ≤ 9 * sumW s k := Int.mul_le_mul_of_nonneg_right m9 a1
    have a4 := Int.mul_nonneg (show 0 ≤ m by omega) a1
    omega
  -- level by level
  have lvl : ∀ (g j : Nat) (τ : ASt) (n : Int), j + g = h → Fr WK σ τ → gI τ 72 15 = n → Tb (nw s h m v j) (fw s h m v j) n (gL τ 83) (gL τ 84) (gI τ 85) → Wx K_X8_ways (QL Q) 121 [(0, .ref 72), (1, .int (iI b)), (4, .int (iI m)), (5, .int (iI w)), (6, .long (lI (m * sumW s (h - j)))), (8, .int (iI ((h : Int) - 1 - j)))] [] τ := by
    intro g
    induction g with
    | zero =>
      intro j τ n hj A hn T
      have ej : j = h := by omega
      subst ej
      have fin := hq τ A.1 (C.wk W A)
      have few := T.few B m1 m9 v0 v1 (Nat.le_refl _)
      have z0 : ∀ x : Int, fw s j m v j x < 1000000 → x = 0 := fun x hx => by
        obtain ⟨j', hj'⟩ : ∃ j', j = j' + 1 := ⟨j - 1, by omega⟩
        rw [hj'] at hx
        unfold fw at hx
        split at hx
        · rename_i q
          rw [show j' + 1 - 1 - j' = 0 by omega] at q
          have e0 : sumW s 0 = 0 := rfl
          rw [e0, Int.mul_zero] at q
          omega
        · omega
      have fb := fw_b (s := s) (h := j) (v := v) m9 j 0
      refine bX8_ways_121 hm hw (by omega) ⟨fun _ => ?_, fun q => by omega⟩
      rw [hn]
      refine ⟨by omega, fun q => ?_, fun q => ?_⟩
      · have e := T.2.1 0 (Int.le_refl _) (by omega)
        have r0 := z0 _ e.1
        rw [r0] at e
        rw [pit_pos e.1] at fin
        refine ⟨fun q2 => ?_, fun q2 => ?_⟩
        · rw [pit_neg q2] at fin
          rw [e.2.2]
          exact ⟨by omega, fin⟩
        · rw [pit_pos q2] at fin
          rw [e.2.1]; exact fin
      · rw [pit_neg (fun g => by
          obtain ⟨i, a, b, _⟩ := T.2.2.1 0 g
          omega)] at fin
        refine ⟨fun q2 => ?_, fun q2 => ?_⟩
        · rw [pit_neg q2] at fin; exact fin
        · rw [pit_pos q2] at fin; exact fin
    | succ g ih =>
      intro j τ n hj A hn T
      have nf := T.few B m1 m9 v0 v1 (show j ≤ h by omega)
      have jh : j < h := by omega
      have wk := wo_pos hs (h - 1 - j)
      have wk2 := B.2.2.2.2.2.1 (h - 1 - j) (by omega)
      have sr := srm (h - 1 - j) (by omega)
      have Mt : MB τ b s n0 h := M.fr A (fun a j x y => wk_ar (by omega))
      have rb : ∀ i : Int, 0 ≤ i → i < n → 0 ≤ gL τ 83 i ∧ gL τ 83 i ≤ v := fun i a e => fw_r hs v0 (by omega) j _ (T.2.1 i a e).1
      have zb : ∀ i : Int, 0 ≤ i → i < n → 0 ≤ gI τ 85 i ∧ gI τ 85 i ≤ 387 := fun i a e => by
        have g := T.2.1 i a e
        have g2 := fw_b (s := s) (h := h) (v := v) m9 j (gL τ 83 i)
        have := g2.2.2 g.1
        rw [g.2.2]; omega
      refine bX8_ways_121 hm hw (by omega) ⟨fun q => by omega, fun _ => sp_mworth b0 b2 B Mt (by omega) (by omega) ?_⟩
      have ek : ((h : Int) - 1 - j).toNat = h - 1 - j := by omega
      have e5 : m * sumW s (h - j) - m * wo s (h - 1 - j) = m * sumW s (h - 1 - j) := by
        rw [show h - j = (h - 1 - j) + 1 by omega, sumW_succ, Int.mul_add]; omega
      rw [ek, e5]
      -- frames from the level's start
      have A0 : Fr (fun a i => ¬ (a = 72 ∧ i = 19)) τ (sI τ 72 19 0) := fr_sI (by omega) (fun a j x => x)
      -- the entries made are copied
      have cp : ∀ (υ : ASt) (t : Int), 0 ≤ t → t ≤ 1216 → Fr WK σ υ → Tb (nw s h m v (j + 1)) (fw s h m v (j + 1)) t (gL υ 87) (gL υ 88) (gI υ 89) → gI υ 72 15 = t → ∀ (f : Nat) (k : Int) (ω : ASt), 0 ≤ k → k + f = t → Fr (fun a _ => a ≠ 83 ∧ a ≠ 84 ∧ a ≠ 85) υ ω → (∀ i : Int, 0 ≤ i → i < k → gL ω 83 i = gL υ 87 i ∧ gL ω 84 i = gL υ 88 i ∧ gI ω 85 i = gI υ 89 i) → Wx K_X8_ways (QL Q) 293 [(0, .ref 72), (1, .int (iI b)), (4, .int (iI m)), (5, .int (iI w)), (6, .long (lI (m * sumW s (h - 1 - j)))), (8, .int (iI ((h : Int) - 1 - j))), (11, .int (iI k))] [] ω := by
        intro υ t t0 t1 A1 T1 h15 f
        induction f with
        | zero =>
          intro k ω k0 hk A2 hi
          have e15 : gI ω 72 15 = t := (A2.I (by omega)).trans h15
          refine bX8_ways_293 (by omega) ⟨by rw [e15]; omega, fun _ => ?_, fun q => by rw [e15] at q; omega⟩
          have := ih (j + 1) ω t (by omega) (A1.trans (A2.mono (fun a i x => ⟨fun z => x.2.1 ⟨by omega, by omega⟩, fun z => x.2.1 ⟨by omega, by omega⟩, fun z => x.2.1 ⟨by omega, by omega⟩⟩))) e15 (T1.congr (fun i a e => (hi i a (by omega)).1) (fun i a e => (hi i a (by omega)).2.1) (fun i a e => (hi i a (by omega)).2.2))
          rw [show h - (j + 1) = h - 1 - j by omega, show (h : Int) - 1 - ((j + 1 : Nat) : Int) = (h : Int) - 1 - j + (-1) by omega] at this
          exact this
        | succ f ihf =>
          intro k ω k0 hk A2 hi
          have e15 : gI ω 72 15 = t := (A2.I (by omega)).trans h15
          have e87 : gL ω 87 k = gL υ 87 k := A2.L (by omega)
          have e88 : gL ω 88 k = gL υ 88 k := A2.L (by omega)
          have e89 : gI ω 89 k = gI υ 89 k := A2.I (by omega)
          refine bX8_ways_293 (by omega) ⟨by rw [e15]; omega, fun q => by rw [e15] at q; omega, fun _ => ⟨⟨k0, by omega⟩, ?_⟩⟩
          have a1 : ∀ (τ : ASt) (i u : Int), gL (sL τ 83 i u) 88 k = gL τ 88 k := fun τ i u => gL_na _ _ _ _ (by omega)
          rw [a1, gI_sL, gI_sL, e87, e88, e89]
          refine ihf (k + 1) _ (by omega) (by omega) (((A2.trans (fr_sL (by omega) (fun a j x => by omega))).trans (fr_sL (by omega) (fun a j x => by omega))).trans (fr_sI (by omega) (fun a j x => by omega))) (fun i a e => ?_)
          by_cases z : i = k
          · rw [z]
            refine ⟨?_, ?_, gI_self _ _ _ _⟩
            · rw [gL_sI, gL_na _ _ _ _ (by omega), gL_self]
            · rw [gL_sI, gL_self]
          · have := hi i a (by omega)
            refine ⟨?_, ?_, ?_⟩
            · rw [gL_sI, gL_na _ _ _ _ (by omega), gL_ne _ _ _ z]; exact this.1
            · rw [gL_sI, gL_ne _ _ _ z, gL_na _ _ _ _ (by omega)]; exact this.2.1
            · rw [gI_ne _ _ _ z, gI_sL, gI_sL]; exact this.2.2
      -- the pairs, one by one
      have FW : ∀ υ, Fr (fun a i => LP8 a i) τ υ → Fr WK σ υ := fun υ A1 => A.trans (A1.mono (fun a i x => ⟨fun z => x.2.1 ⟨by omega, by omega⟩, fun z => x.2.1 ⟨by omega, by omega⟩, fun z => x.2.1 ⟨by omega, by omega⟩, fun z => x.2.1 ⟨by omega, by omega⟩, fun z => x.2.2.2 ⟨z.1, by omega⟩⟩))
      have hreal : ∀ (i0 c0 : Int) (c : Nat) (r : Int), c < m.toNat + 1 → Pz (gL τ 83) n (wo s (h - 1 - j)) i0 c0 c r → fw s h m v j (r + c * wo s (h - 1 - j)) < 1000000 := fun i0 c0 c r _ ⟨i, a, e, _, q⟩ => by
        rw [← q]; exact (T.2.1 i a e).1
      have pairs : ∀ (f : Nat) (i c t : Int) (υ : ASt), 0 ≤ i → i < n → 0 ≤ c → c + f = m + 1 → (∀ (t' : Int) (ω : ASt), Fr (fun a i => LP8 a i) τ ω → HT ω t' → Tp (nw s h m v j) (fw s h m v j) (wo s (h - 1 - j)) (m.toNat + 1) (m * sumW s (h - 1 - j)) (Pz (gL τ 83) n (wo s (h - 1 - j)) (i + 1) 0) t' (gL ω 87) (gL ω 88) (gI ω 89) → Wx K_X8_ways (QL Q) 179 [(0, .ref 72), (1, .int (iI b)), (4, .int (iI m)), (5, .int (iI w)), (6, .long (lI (m * sumW s (h - 1 - j)))), (8, .int (iI ((h : Int) - 1 - j))), (9, .long (lI (wo s (h - 1 - j)))), (11, .int (iI (i + 1)))] [] ω) → Fr (fun a i => LP8 a i) τ υ → HT υ t → Tp (nw s h m v j) (fw s h m v j) (wo s (h - 1 - j)) (m.toNat + 1) (m * sumW s (h - 1 - j)) (Pz (gL τ 83) n (wo s (h - 1 - j)) i c) t (gL υ 87) (gL υ 88) (gI υ 89) → Wx K_X8_ways (QL Q) 191 [(0, .ref 72), (1, .int (iI b)), (4, .int (iI m)), (5, .int (iI w)), (6, .long (lI (m * sumW s (h - 1 - j)))), (8, .int (iI ((h : Int) - 1 - j))), (9, .long (lI (wo s (h - 1 - j)))), (11, .int (iI i)), (12, .int (iI c))] [] υ := by
        intro f
        induction f with
        | zero =>
          intro i c t υ i0 i1 c0 hc out A1 H TP
          refine bX8_ways_191 (by omega) hm (by omega) ⟨fun _ => out t υ A1 H (TP.congr (fun c' r c'0 c'1 r0 r1 => ⟨fun ⟨k, a, e, q, q2⟩ => ⟨k, a, e, by omega, q2⟩, fun ⟨k, a, e, q, q2⟩ => ⟨k, a, e, by omega, q2⟩⟩) (fun _ _ _ => rfl) (fun _ _ _ => rfl) (fun _ _ _ => rfl)), fun q => by omega⟩
        | succ f ihf =>
          intro i c t υ i0 i1 c0 hc out A1 H TP
          have cw := cW (h - 1 - j) c (by omega) c0 (by omega)
          have ri := rb i i0 i1
          have zi := zb i i0 i1
          have e83 : gL υ 83 i = gL τ 83 i := A1.L (by refine ⟨?_, ?_, ?_, ?_, ?_⟩ <;> omega)
          have e84 : gL υ 84 i = gL τ 84 i := A1.L (by refine ⟨?_, ?_, ?_, ?_, ?_⟩ <;> omega)
          have e85 : gI υ 85 i = gI τ 85 i := A1.I (by refine ⟨?_, ?_, ?_, ?_, ?_⟩ <;> omega)
          have tf := TP.few B m1 m9 v0 v1 jh (hreal i c)
          refine bX8_ways_191 (by omega) hm (by omega) ⟨fun q => by omega, fun _ => ⟨⟨i0, by omega⟩, ?_⟩⟩
          rw [e83, e84, e85]
          refine ⟨by omega, by omega, fun q => out t υ A1 H (TP.congr (fun c' r c'0 c'1 r0 r1 => ⟨fun ⟨k, a, e, q1, q2⟩ => ⟨k, a, e, ?_, q2⟩, fun ⟨k, a, e, q1, q2⟩ => ⟨k, a, e, by omega, q2⟩⟩) (fun _ _ _ => rfl) (fun _ _ _ => rfl) (fun _ _ _ => rfl)), fun q => ⟨by omega, fun q2 => ?_, fun q2 => ?_⟩⟩
          · -- so many times is too much: more, too
            by_cases z : k = i
            · right
              refine ⟨z, ?_⟩
              rcases Int.lt_or_le c' c with y | y
              · exact y
              · exfalso
                rw [z] at q2
                have := Int.mul_le_mul_of_nonneg_right y (show 0 ≤ wo s (h - 1 - j) by omega)
                omega
            · left; omega
          · -- more than the lower worths make
            refine ihf i (c + 1) t υ i0 i1 (by omega) (by omega) out A1 H (TP.congr (fun c' r c'0 c'1 r0 r1 => ⟨fun ⟨k, a, e, q3, q4⟩ => ⟨k, a, e, ?_, q4⟩, fun ⟨k, a, e, q3, q4⟩ => ⟨k, a, e, by omega, q4⟩⟩) (fun _ _ _ => rfl) (fun _ _ _ => rfl) (fun _ _ _ => rfl))
            rcases q3 with q3 | ⟨q3, q5⟩
            · exact Or.inl q3
            · right
              refine ⟨q3, ?_⟩
              by_cases y : c' = c
              · exfalso
                rw [q3, y] at q4
                omega
              · omega
          · have hP : ∀ c' r : Int, Pz (gL τ 83) n (wo s (h - 1 - j)) i (c + 1) c' r ↔ Pz (gL τ 83) n (wo s (h - 1 - j)) i c c' r ∨ (c' = ((c.toNat : Nat) : Int) ∧ r = gL τ 83 i - c * wo s (h - 1 - j)) := fun c' r => by
              rw [Int.toNat_of_nonneg c0]
              refine ⟨fun ⟨k, a, e, q3, q4⟩ => ?_, fun q3 => ?_⟩
              · by_cases y : k = i ∧ c' = c
                · right
                  rw [y.1, y.2] at q4
                  exact ⟨y.2, by omega⟩
                · left; exact ⟨k, a, e, by omega, q4⟩
              · rcases q3 with ⟨k, a, e, q3, q4⟩ | ⟨q3, q4⟩
                · exact ⟨k, a, e, by omega, q4⟩
                · exact ⟨i, i0, i1, Or.inr ⟨rfl, by omega⟩, by rw [q3]; omega⟩
            have hno : ¬ Pz (gL τ 83) n (wo s (h - 1 - j)) i c ((c.toNat : Nat) : Int) (gL τ 83 i - c * wo s (h - 1 - j)) := fun ⟨k, a, e, q3, q4⟩ => by
              rw [Int.toNat_of_nonneg c0] at q3 q4
              have := T.2.2.2 k i a e i0 i1 (by omega)
              omega
            have eN : nw s h m v j ((gL τ 83 i - c * wo s (h - 1 - j)) + ((c.toNat : Nat) : Int) * wo s (h - 1 - j)) = gL τ 84 i := by
              rw [Int.toNat_of_nonneg c0, Int.sub_add_cancel]; exact ((T.2.1 i i0 i1).2.1).symm
            have eF : fw s h m v j ((gL τ 83 i - c * wo s (h - 1 - j)) + ((c.toNat : Nat) : Int) * wo s (h - 1 - j)) + ((c.toNat : Nat) : Int) = gI τ 85 i + c := by
              rw [Int.toNat_of_nonneg c0, Int.sub_add_cancel]
              have := (T.2.1 i i0 i1).2.2
              omega
            refine sp_leaves (by omega) (by omega) H (by omega) (fun k a e => ?_) (fun ω e e0 e1 ex A2 H2 h87 h88 h89 => ?_) (fun ω no A2 H2 h87 h88 h89 => ?_)
            · have g1 := TP.2.1 k a e
              refine ⟨by have := g1.1; omega, ?_⟩
              rw [g1.2.2.2]
              have n0' := mn_le (g := gF (fw s h m v j) (wo s (h - 1 - j)) (Pz (gL τ 83) n (wo s (h - 1 - j)) i c) (gL υ 87 k)) (n := m.toNat + 1)
              have n1' : 0 ≤ mn (gF (fw s h m v j) (wo s (h - 1 - j)) (Pz (gL τ 83) n (wo s (h - 1 - j)) i c) (gL υ 87 k)) (m.toNat + 1) := mn_glb.mpr ⟨by omega, fun c' hc' => by
                unfold gF
                by_cases q3 : Pz (gL τ 83) n (wo s (h - 1 - j)) i c c' (gL υ 87 k)
                · rw [pit_pos q3]
                  have := (fw_b (s := s) (h := h) (v := v) m9 j (gL υ 87 k + (c' : Int) * wo s (h - 1 - j))).1
                  omega
                · rw [pit_neg q3]; omega⟩
              omega
            · refine ihf i (c + 1) t ω i0 i1 (by omega) (by omega) out (A1.trans A2) H2 (TP.old (c := c.toNat) (e := e) (by omega) hP hno e0 e1 ex (fun k _ _ => h87 k) (fun k _ _ => ?_) (fun k _ _ => ?_))
              · rw [h88, eN]
              · rw [h89, eF]
            · refine ihf i (c + 1) (t + 1) ω i0 i1 (by omega) (by omega) out (A1.trans A2) H2 (TP.new (c := c.toNat) (x := gL τ 83 i - c * wo s (h - 1 - j)) (by omega) hP (by omega) q2 no (by rw [eF]; omega) (fun k a e => ?_) (fun k a e => ?_) (fun k a e => ?_) ?_ ?_ ?_)
              · rw [h87, if_neg (by omega)]
              · rw [h88, if_neg (by omega)]
              · rw [h89, if_neg (by omega)]
              · rw [h87, if_pos rfl]
              · rw [h88, if_pos rfl, eN]
              · rw [h89, if_pos rfl, eF]
      have rests : ∀ (f : Nat) (i t : Int) (υ : ASt), 0 ≤ i → i + f = n → Fr (fun a i => LP8 a i) τ υ → HT υ t → Tp (nw s h m v j) (fw s h m v j) (wo s (h - 1 - j)) (m.toNat + 1) (m * sumW s (h - 1 - j)) (Pz (gL τ 83) n (wo s (h - 1 - j)) i 0) t (gL υ 87) (gL υ 88) (gI υ 89) → Wx K_X8_ways (QL Q) 179 [(0, .ref 72), (1, .int (iI b)), (4, .int (iI m)), (5, .int (iI w)), (6, .long (lI (m * sumW s (h - 1 - j)))), (8, .int (iI ((h : Int) - 1 - j))), (9, .long (lI (wo s (h - 1 - j)))), (11, .int (iI i))] [] υ := by
        intro f
        induction f with
        | zero =>
          intro i t υ i0 hi A1 H TP
          have e15 : gI υ 72 15 = n := (A1.I (by refine ⟨?_, ?_, ?_, ?_, ?_⟩ <;> omega)).trans hn
          have tf := TP.few B m1 m9 v0 v1 jh (hreal i 0)
          refine bX8_ways_179 (by omega) ⟨by rw [e15]; omega, fun _ => ?_, fun q => by rw [e15] at q; omega⟩
          rw [H.1]
          have A2 : Fr (fun a i => ¬ (a = 72 ∧ i = 15)) υ (sI υ 72 15 t) := fr_sI (by omega) (fun a j x => x)
          have TB : Tb (nw s h m v (j + 1)) (fw s h m v (j + 1)) t (gL υ 87) (gL υ 88) (gI υ 89) := TP.done (by omega) m9 jh h43 (fun c r hc r0 r1 => ⟨hreal i 0 c r hc, fun q => by
            obtain ⟨k, a, e, q2⟩ := T.2.2.1 _ q
            exact ⟨k, a, e, Or.inl (by omega), q2⟩⟩)
          refine cp (sI υ 72 15 t) t tf.1 tf.2 ((FW υ A1).trans (A2.mono (fun a i x z => x.2.2.2 ⟨z.1, Or.inl z.2⟩))) (TB.congr (fun _ _ _ => rfl) (fun _ _ _ => rfl) (fun k a e => gI_na _ _ _ _ (by omega))) (gI_self _ _ _ _) t.toNat 0 _ (by omega) (by omega) Fr.rf (fun k a e => by omega)
        | succ f ihf =>
          intro i t υ i0 hi A1 H TP
          have e15 : gI υ 72 15 = n := (A1.I (by refine ⟨?_, ?_, ?_, ?_, ?_⟩ <;> omega)).trans hn
          refine bX8_ways_179 (by omega) ⟨by rw [e15]; omega, fun q => by rw [e15] at q; omega, fun _ => ?_⟩
          exact pairs (m + 1).toNat i 0 t υ i0 (by omega) (by omega) (by omega) (fun t' ω A2 H2 TP2 => ihf (i + 1) t' ω (by omega) (by omega) A2 H2 TP2) A1 H TP
      -- all slots are freed first
      have clr : ∀ (f : Nat) (k : Int) (υ : ASt), 0 ≤ k → k + f = 16384 → Fr (fun a i => LP8 a i) τ υ → gI υ 72 19 = 0 → (∀ p : Int, 0 ≤ p → p < k → gI υ 86 p = 0) → Wx K_X8_ways (QL Q) 154 [(0, .ref 72), (1, .int (iI b)), (4, .int (iI m)), (5, .int (iI w)), (6, .long (lI (m * sumW s (h - 1 - j)))), (8, .int (iI ((h : Int) - 1 - j))), (9, .long (lI (wo s (h - 1 - j)))), (11, .int (iI k))] [] υ := by
        intro f
        induction f with
        | zero =>
          intro k υ k0 hk A1 h19 hp
          refine bX8_ways_154 (by omega) ⟨fun _ => rests n.toNat 0 0 υ (by omega) (by omega) A1 ⟨h19, Int.le_refl _, fun p p0 p1 => by rw [hp p p0 (by omega)]; omega, fun p q p0 p1 q0 q1 e ne => absurd (hp p p0 (by omega)) ne, fun e e0 e1 => by omega⟩ ⟨Int.le_refl _, fun i a e => by omega, fun c r hc hpr r0 r1 => ?_, fun i k a e => by omega⟩, fun q => by omega⟩
          obtain ⟨i, a, e, q, _⟩ := hpr
          omega
        | succ f ihf =>
          intro k υ k0 hk A1 h19 hp
          refine bX8_ways_154 (by omega) ⟨fun q => by omega, fun _ => ⟨⟨k0, by omega⟩, ihf (k + 1) _ (by omega) (by omega) (A1.trans (fr_sI (by omega) (fun a j x => by omega))) (by rw [gI_na _ _ _ _ (by omega)]; exact h19) (fun p p0 p1 => ?_)⟩⟩
          by_cases z : p = k
          · rw [z, gI_self]
          · rw [gI_ne _ _ _ z]; exact hp p p0 (by omega)
      exact clr 16384 0 _ (by omega) (by omega) (A0.mono (fun a i x => x.2.2.2.2)) (gI_self _ _ _ _) (fun p p0 p1 => by omega)
  have lp : ∀ (g : Nat) (k : Int), 0 ≤ k → k + g = h → Wx K_X8_ways (QL Q) 52 [(0, .ref 72), (1, .int (iI b)), (2, .long (lI v)), (4, .int (iI m)), (5, .int (iI w)), (6, .long (lI (m * sumW s k.toNat))), (8, .int (iI k))] [] σ := by
    intro g
    induction g with
    | zero =>
      intro k k0 hk
      refine bX8_ways_52 hm (by omega) ⟨⟨b0, b3⟩, by rw [M.2.1]; omega, fun _ => ?_, fun q => by rw [M.2.1] at q; omega⟩
      have A1 : Fr (fun a i => a ≠ 83 ∧ a ≠ 84 ∧ a ≠ 85 ∧ ¬ (a = 72 ∧ i = 15)) σ (sI (sL (sL (sI σ 72 15 1) 83 0 v) 84 0 1) 85 0 0) := (((fr_sI (by omega) (fun a j x => by omega)).trans (fr_sL (by omega) (fun a j x => by omega))).trans (fr_sL (by omega) (fun a j x => by omega))).trans (fr_sI (by omega) (fun a j x => by omega))
      have e75 : gI (sI (sL (sL (sI σ 72 15 1) 83 0 v) 84 0 1) 85 0 0) 75 b = h := (A1.I (by omega)).trans M.2.1
      rw [e75]
      have := lvl h 0 (sI (sL (sL (sI σ 72 15 1) 83 0 v) 84 0 1) 85 0 0) 1 (by omega) (A1.mono (fun a i x => ⟨fun z => x.2.1 ⟨by omega, by omega⟩, fun z => x.2.1 ⟨by omega, by omega⟩, fun z => x.2.1 ⟨by omega, by omega⟩, fun z => x.2.2.2 ⟨z.1, Or.inl z.2⟩⟩)) (by rw [gI_na _ _ _ _ (by omega), gI_sL, gI_sL, gI_self]) ⟨by omega, fun i a e => ?_, fun r q => ?_, fun i k a e c d q => by omega⟩
      · rw [show h - 0 = k.toNat by omega, show (h : Int) - 1 - ((0 : Nat) : Int) = (h : Int) - 1 by omega] at this
        exact this
      · have i0 : i = 0 := by omega
        subst i0
        have e1 : fw s h m v 0 v = 0 := if_pos rfl
        have e2 : nw s h m v 0 v = 1 := if_pos rfl
        rw [gI_self, gL_sI, gL_sI, gL_self, gL_na _ _ _ _ (by omega), gL_self, e1, e2]
        exact ⟨by omega, rfl, rfl⟩
      · unfold fw at q
        split at q
        · rename_i e
          exact ⟨0, by omega, by omega, by rw [gL_sI, gL_na _ _ _ _ (by omega), gL_self]; exact e.symm⟩
        · omega
    | succ g ih =>
      intro k k0 hk
      have nx := ih (k + 1) (by omega) (by omega)
      rw [show (k + 1).toNat = k.toNat + 1 by omega, sumW_succ, Int.mul_add] at nx
      exact bX8_ways_52 hm (by omega) ⟨⟨b0, b3⟩, by rw [M.2.1]; omega, fun q => by rw [M.2.1] at q; omega, fun _ => sp_mworth b0 b2 B M k0 (by omega) nx⟩
  have := lp h 0 (by omega) (by omega)
  have e0 : m * sumW s (0 : Int).toNat = 0 := by show m * (0 : Int) = 0; exact Int.mul_zero m
  rw [e0] at this
  exact this
