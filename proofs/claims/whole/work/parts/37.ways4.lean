/-! ways: the class's call -/
noncomputable def oWays (α : AB) (b v m w : Int) : Int := pit (okB b ∧ (0 ≤ v ∧ v ≤ 1000000000) ∧ (1 ≤ m ∧ m ≤ 9) ∧ (0 ≤ w ∧ w ≤ 1)) (pit (fw (aS α b.toNat) (aH α b.toNat) m v (aH α b.toNat) 0 < 1000000) (pit (w = 0) (lI (nw (aS α b.toNat) (aH α b.toNat) m v (aH α b.toNat) 0)).toInt (fw (aS α b.toNat) (aH α b.toNat) m v (aH α b.toNat) 0)) (pit (w = 0) 0 (-1))) nO
theorem sp_make {o : Nat} (ho : shp o = (0, 0, 0)) (o24 : 24 ≤ o) {s : Int → Int} {n0 : Int} {h : Nat} (B : BOK s n0 h) {m v : Int} (m1 : 1 ≤ m) (m9 : m ≤ 9) (v0 : 0 ≤ v) (v1 : v ≤ 1000000000) {σ : ASt} (C : CB σ o s n0 h) (K : CMk σ) {Qn : ASt → Prop} {Qs : Nat → ASt → Prop} (hq : ∀ (τ : ASt) (r : Nat) (z : Int), shp r = (0, 5, 0) → Ag WP σ τ → CMk τ → gI τ r 3 = z → Tb (nw s h m v h) (fw s h m v h) z (gL τ (r + 2)) (gL τ (r + 4)) (gI τ (r + 6)) → Qs r τ) : EvR 5 K_X3_make [.ref 14, .ref o, .long (lI v), .int (iI m)] σ Qn Qs := by
  have hs := B.s1
  have h43 := B.h43
  have h1 := B.2.2.2.2.1
  have lp2 : ∀ (g j : Nat) (τ : ASt) (f t : Nat) (z : Int), ((f = 16 ∧ t = 17) ∨ (f = 17 ∧ t = 16)) → j + g = h → Ag WP σ τ → gP τ 14 0 = some f → gP τ 14 1 = some t → gI τ t 3 = z → Tb (nw s h m v j) (fw s h m v j) z (gL τ (t + 2)) (gL τ (t + 4)) (gI τ (t + 6)) → Asc z (gL τ (t + 2)) → Wx K_X3_make (QR 5 Qn Qs) 70 [(0, .ref 14), (1, .ref o), (4, .int (iI m)), (5, .long (lI (m * sumW s (h - j)))), (7, .int (iI ((h : Int) - 1 - j)))] [] τ := by
    intro g
    induction g with
    | zero =>
      intro j τ f t z hft hj A p0 p1 hz T as
      have ht : shp t = (0, 5, 0) := by rcases hft with ⟨_, rfl⟩ | ⟨_, rfl⟩ <;> rfl
      refine bX3_make_70 ho (by omega) (by omega) ⟨fun _ => ⟨fun q => (by rw [p1] at q; cases q), fun r2 q => ?_⟩, fun q => by omega⟩
      rw [p1] at q; cases q
      have ej : j = h := by omega
      rw [ej] at T
      exact ⟨ht, hq τ _ z ht A ⟨f, _, p0, p1, hft⟩ hz T⟩
    | succ g ih =>
      intro j τ f t z hft hj A p0 p1 hz T as
      have hf : shp f = (0, 5, 0) := by rcases hft with ⟨rfl, _⟩ | ⟨rfl, _⟩ <;> rfl
      have ht : shp t = (0, 5, 0) := by rcases hft with ⟨_, rfl⟩ | ⟨_, rfl⟩ <;> rfl
      have CC : CB τ o s n0 h := C.ag A (by omega) (by omega) (by omega)
      refine bX3_make_70 ho (by omega) (by omega) ⟨fun q => by omega, fun _ => ?_⟩
      refine sp_hasPlace ho (by omega) CC.2.1 h43 (fun _ _ => ⟨⟨by omega, by omega⟩, fun q => (by rw [p1] at q; cases q), fun r7 q => ?_⟩) (fun q => by omega)
      rw [p1] at q; cases q
      refine ⟨ht, fun q => (by rw [p0] at q; cases q), fun r15 q => ?_⟩
      rw [p0] at q; cases q
      refine ⟨hf, ?_⟩
      have ew : gL τ (o + 12) ((h : Int) - 1 - j) = wo s (h - 1 - j) := by rw [CC.2.2.2.2 _ (by omega) (by omega), show ((h : Int) - 1 - j).toNat = h - 1 - j by omega]
      have e5 : m * sumW s (h - j) - m * wo s (h - 1 - j) = m * sumW s (h - 1 - j) := by
        rw [show h - j = (h - 1 - j) + 1 by omega, sumW_succ, Int.mul_add]; omega
      rw [gL_sP, gL_sP, ew, e5]
      have A1 : Ag (fun b => b ≠ 14) τ (sP (sP τ 14 1 (some f)) 14 0 (some t)) := (ag_sP (fun b x => x)).trans (ag_sP (fun b x => x))
      refine sp_take (σ := sP (sP τ 14 1 (some f)) 14 0 (some t)) (f := t) (t := f) (by omega) B m1 m9 v0 v1 (by omega) (by rw [gP_sP, if_pos ⟨rfl, rfl⟩]) (by rw [gP_sP, if_neg (by omega), gP_sP, if_pos ⟨rfl, rfl⟩]) (n := z) hz T as (fun υ z' A2 hz' T' as' => ?_)
      have q0 : gP υ 14 0 = some t := by rw [A2.P (by refine ⟨?_, ?_, ?_, ?_, ?_⟩ <;> omega), gP_sP, if_pos ⟨rfl, rfl⟩]
      have q1 : gP υ 14 1 = some f := by rw [A2.P (by refine ⟨?_, ?_, ?_, ?_, ?_⟩ <;> omega), gP_sP, if_neg (by omega), gP_sP, if_pos ⟨rfl, rfl⟩]
      have := ih (j + 1) υ t f z' (by omega) (by omega) (A.trans ((A1.mono (fun b x => by omega)).trans (A2.mono (fun b x => by refine ⟨?_, ?_, ?_, ?_, ?_⟩ <;> omega)))) q0 q1 hz' T' as'
      rw [show h - (j + 1) = h - 1 - j by omega, show (h : Int) - 1 - ((j + 1 : Nat) : Int) = (h : Int) - 1 - j + (-1) by omega] at this
      exact this
  obtain ⟨f, t, p0, p1, hft⟩ := K
  have hf : shp f = (0, 5, 0) := by rcases hft with ⟨rfl, _⟩ | ⟨rfl, _⟩ <;> rfl
  have ht : shp t = (0, 5, 0) := by rcases hft with ⟨_, rfl⟩ | ⟨_, rfl⟩ <;> rfl
  have start : ∀ k : Int, k = h → EvV K_X5_add [.ref t, .long (lI v), .long (lI 1), .int (iI 0)] (sI σ t 3 0) (fun s8 => Wx K_X3_make (QR 5 Qn Qs) 70 [(0, .ref 14), (1, .ref o), (4, .int (iI m)), (5, .long (lI (m * sumW s k.toNat))), (7, .int (iI ((gI s8 o 4) - 1)))] [] s8) := fun k hk => by
    refine sp_add ht (by omega) (by omega) (gI_self _ _ _ _) (Int.le_refl _) (by omega) (fun i a b => by omega) (fun τ z => by omega) (fun τ _ A hz hR hY hZ => ?_)
    have A1 : Ag WP σ τ := (ag_sI (fun b x => by omega)).trans (A.mono (fun b x => by refine ⟨?_, ?_, ?_, ?_⟩ <;> omega))
    have e4 : gI τ o 4 = h := (A1.I (by omega) 4).trans C.2.1
    rw [e4]
    have := lp2 h 0 τ f t 1 hft (by omega) A1 ((A.P (by refine ⟨?_, ?_, ?_, ?_⟩ <;> omega) 0).trans p0) ((A.P (by refine ⟨?_, ?_, ?_, ?_⟩ <;> omega) 1).trans p1) hz ⟨by omega, fun i a b => ?_, fun r q => ?_, fun i k a b c d e => by omega⟩ (fun i k a b c => by omega)
    · rw [show h - 0 = k.toNat by omega, show (h : Int) - 1 - ((0 : Nat) : Int) = (h : Int) - 1 by omega] at this
      exact this
    · have i0 : i = 0 := by omega
      subst i0
      rw [hR, hY, hZ, if_pos rfl, if_pos rfl, if_pos rfl]
      have e1 : fw s h m v 0 v = 0 := if_pos rfl
      have e2 : nw s h m v 0 v = 1 := if_pos rfl
      rw [e1, e2]
      exact ⟨by omega, rfl, rfl⟩
    · unfold fw at q
      split at q
      · rename_i e
        exact ⟨0, by omega, by omega, by rw [hR, if_pos rfl]; exact e.symm⟩
      · omega
  have lp1 : ∀ (g : Nat) (k : Int), 0 ≤ k → k + g = h → Wx K_X3_make (QR 5 Qn Qs) 6 [(0, .ref 14), (1, .ref o), (2, .long (lI v)), (4, .int (iI m)), (5, .long (lI (m * sumW s k.toNat))), (7, .int (iI k))] [] σ := by
    intro g
    induction g with
    | zero =>
      intro k k0 hk
      have st := start k (by omega)
      refine bX3_make_6 ho (by omega) (by omega) ⟨fun _ => ⟨fun q => (by rw [p1] at q; cases q), fun r2 q => ?_⟩, fun _ => ?_⟩
      · rw [p1] at q; cases q
        refine ⟨ht, fun q => (by rw [gP_sI, p1] at q; cases q), fun r5 q => ?_⟩
        rw [gP_sI, p1] at q; cases q
        exact ⟨ht, st⟩
      · refine sp_hasPlace ho (by omega) C.2.1 h43 (fun _ q => by omega) (fun _ => ⟨fun q => (by rw [p1] at q; cases q), fun r2 q => ?_⟩)
        rw [p1] at q; cases q
        refine ⟨ht, fun q => (by rw [gP_sI, p1] at q; cases q), fun r5 q => ?_⟩
        rw [gP_sI, p1] at q; cases q
        exact ⟨ht, st⟩
    | succ g ih =>
      intro k k0 hk
      have nx := ih (k + 1) (by omega) (by omega)
      rw [show (k + 1).toNat = k.toNat + 1 by omega, sumW_succ, Int.mul_add] at nx
      refine bX3_make_6 ho (by omega) (by omega) ⟨fun q => by omega, fun _ => ?_⟩
      refine sp_hasPlace ho (by omega) C.2.1 h43 (fun _ q => ⟨⟨k0, by omega⟩, ?_⟩) (fun q => by omega)
      rw [C.2.2.2.2 k k0 (by omega)]
      exact nx
  have := lp1 h 0 (by omega) (by omega)
  have e0 : m * sumW s (0 : Int).toNat = 0 := by show m * (0 : Int) = 0; exact Int.mul_zero m
  rw [e0] at this
  exact eX3_make ho this
theorem C_ways {σ : ASt} {α : AB} (W : WF α) (C : CAll σ α) {b v m w : Int} (hb : i32 b) (hv : i64 v) (hm : i32 m) (hw : i32 w) {Q : Int → ASt → Prop} (hq : ∀ τ, CO σ τ → CAll τ α → Q (oWays α b v m w) τ) : EvL K_X7_ways [.ref 0, .int (iI b), .long (lI v), .int (iI m), .int (iI w)] σ Q := by
  have bad : ¬ (okB b ∧ (0 ≤ v ∧ v ≤ 1000000000) ∧ (1 ≤ m ∧ m ≤ 9) ∧ (0 ≤ w ∧ w ≤ 1)) → Q (-9223372036854775808) σ := fun z => by
    unfold oWays at hq
    rw [pit_neg z] at hq
    exact hq σ Ag.rf C
  refine eX7_ways hw hv (sp_baseAt hb (fun b0 b3 => ⟨fun q => bad (by omega), fun v0 => ⟨fun q => bad (by omega), fun v1 => ?_⟩⟩) (fun q => bad (by omega)))
  refine sp_isWithin hm (by omega) (by omega) (fun m1 m9 => ?_) (fun q => bad (by omega))
  refine sp_isWithin hw (by omega) (by omega) (fun w0 w1 => ?_) (fun q => bad (by omega))
  clear bad
  obtain ⟨B, CC⟩ := base_facts W C b0 b3
  unfold oWays at hq
  rw [pit_pos ⟨⟨b0, by omega⟩, ⟨v0, v1⟩, ⟨m1, m9⟩, ⟨w0, w1⟩⟩] at hq
  refine sp_make (sh_b (by omega)) (by omega) B m1 m9 v0 v1 CC C.2.2.2.2.2.2 (fun τ r z hr A K hz T => ?_)
  have CC2 : CAll τ α := ⟨C.1.ag A (fun b x y => by omega), C.2.1.ag A (fun b x y => by omega), C.2.2.1.ag A (by omega) (by omega) (by omega), C.2.2.2.1.ag A (by omega) (by omega), C.2.2.2.2.1.ag A (fun b x y => by omega), (A.I (by omega) 8).trans C.2.2.2.2.2.1, K⟩
  have fin := hq τ (A.mono (fun b x => by omega)) CC2
  have few := T.few B m1 m9 v0 v1 (Nat.le_refl _)
  have hh := B.2.2.2.2.1
  -- nothing but 0 is left
  have z0 : ∀ x : Int, fw (aS α b.toNat) (aH α b.toNat) m v (aH α b.toNat) x < 1000000 → x = 0 := fun x hx => by
    obtain ⟨j', hj'⟩ : ∃ j', aH α b.toNat = j' + 1 := ⟨aH α b.toNat - 1, by omega⟩
    rw [hj'] at hx
    unfold fw at hx
    split at hx
    · rename_i q
      rw [show j' + 1 - 1 - j' = 0 by omega] at q
      have e0 : sumW (aS α b.toNat) 0 = 0 := rfl
      rw [e0, Int.mul_zero] at q
      omega
    · omega
  have fb := fw_b (s := aS α b.toNat) (h := aH α b.toNat) (v := v) m9 (aH α b.toNat) 0
  rw [hz]
  refine ⟨by omega, fun q => ?_, fun q => ?_⟩
  · have e := T.2.1 0 (Int.le_refl _) (by omega)
    have r0 := z0 _ e.1
    rw [r0] at e
    rw [pit_pos e.1] at fin
    refine ⟨fun q2 => ?_, fun q2 => ?_⟩
    · rw [pit_neg q2] at fin
      rw [e.2.2]
      exact ⟨by omega, fin⟩
    · rw [pit_pos q2] at fin
      rw [e.2.1]; exact fin
  · rw [pit_neg (fun g => by
      obtain ⟨i, a, b, _⟩ := T.2.2.1 0 g
      omega)] at fin
    refine ⟨fun q2 => ?_, fun q2 => ?_⟩
    · rw [pit_neg q2] at fin; exact fin
    · rw [pit_pos q2] at fin; exact fin
