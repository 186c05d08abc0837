/-! soon -/
/-- the first of t, t + 1, ... (so many of them) by which digit k is other than x; -1 -/
def sn (s : Int → Int) (h : Nat) (v x k : Int) : Nat → Int → Int
  | 0, _ => -1
  | f + 1, t => if wo s h - 1 < v + t then -1 else if gd s h (v + t) k = x then sn s h v x k f (t + 1) else t
theorem sn_eq {s d : Int → Int} {n : Int} {h : Nat} (B : BOK s n h) (L : LG s h d) {k : Nat} (hk : k < h) : ∀ (f : Nat) (t : Int), 1 ≤ t → t ≤ tA s d h k → t + f = 1001 → sn s h (va s d h) (d k) k f t = if tA s d h k ≤ 1000 ∧ va s d h + tA s d h k ≤ wo s h - 1 then tA s d h k else -1
  | 0, t, t1, t2, t3 => by
    rw [if_neg (by omega)]; rfl
  | f + 1, t, t1, t2, t3 => by
    have T := turn_spec B L hk
    unfold sn
    by_cases q : wo s h - 1 < va s d h + t
    · rw [if_pos q, if_neg (by omega)]
    · rw [if_neg q]
      by_cases e : t = tA s d h k
      · have := T.2.2 (by omega)
        rw [← e] at this
        rw [if_neg this, ← e, if_pos (by omega)]
      · rw [if_pos (T.2.1 t t1 (by omega) (by omega))]
        exact sn_eq B L hk f (t + 1) (by omega) (by omega) (by omega)
noncomputable def oSoon (α : AB) (r k : Int) : Int := pit (okR r) (pit (rB α r = -1) (-11) (pit (0 ≤ k ∧ k < rH α r) (pit (LEG (rS α r) (rH α r) (rD α r)) (sn (rS α r) (rH α r) (rV α r) (rD α r k) k 1000 1) (-3)) (-12))) (-2)
theorem sp_turnAhead {o a : Nat} (ho : shp o = (0, 0, 0)) (ha : shp a = (1, 0, 43)) {s d : Int → Int} {n : Int} {h : Nat} (B : BOK s n h) (D : DOK d h) (Lg : LEG s h d) {σ : ASt} (C : CB σ o s n h) (hd : CD σ a d) {k : Nat} (hk : k < h) {Q : Int → ASt → Prop} (hq : Q (tA s d h k) σ) : EvL K_X0_turnAhead [.ref o, .ref a, .int (iI (k : Int))] σ Q := by
  have h43 := B.h43
  have hs := B.s1
  have dk := D.all k
  have dk1 := D.all ((k : Int) + 1)
  have sk := B.2.2.1 k (by omega)
  have sk1 := B.2.2.1 ((k : Int) + 1) (by omega)
  have wk := wo_pos hs k
  have wk2 := B.2.2.2.2.2.1 k hk
  have vb := va_bound B D.1 (show k ≤ h by omega)
  have eL : gL σ (o + 12) (k : Int) = wo s k := by rw [C.2.2.2.2 k (by omega) (by omega), Int.toNat_natCast]
  have tail : ∀ R : Int, 0 ≤ R → R ≤ 1000000000 → R = (if 0 < k ∧ d k = s k then wo s (k - 1) else wo s k) → EvL K_X0_valueBelow [.ref o, .ref a, .int (iI (k : Int))] σ (fun x5 s4 => i32 ((gI s4 a (k : Int))) ∧ (((gI s4 a (k : Int)) ≠ 0 → i64 ((R - x5)) ∧ Q (R - x5) s4) ∧ ((gI s4 a (k : Int)) = 0 → EvZ K_X0_hasPlace [.ref o, .int (iI ((k : Int) + 1))] s4 (fun s10 => ((0 : Int) ≤ ((k : Int) + 1) ∧ ((k : Int) + 1) < 43) ∧ i32 ((gI s10 a ((k : Int) + 1))) ∧ i32 ((gI s10 (o + 6) ((k : Int) + 1))) ∧ (((gI s10 a ((k : Int) + 1)) ≠ (gI s10 (o + 6) ((k : Int) + 1)) → i64 ((R - x5)) ∧ Q (R - x5) s10) ∧ ((gI s10 a ((k : Int) + 1)) = (gI s10 (o + 6) ((k : Int) + 1)) → i64 (((R - x5) + (gL s10 (o + 12) (k : Int)))) ∧ Q ((R - x5) + (gL s10 (o + 12) (k : Int))) s10))) (fun s10 => i64 ((R - x5)) ∧ Q (R - x5) s10)))) := by
    intro R R0 R1 hR
    have ec : ((k + 1 : Nat) : Int) = (k : Int) + 1 := by omega
    unfold tA at hq
    rw [← hR, ec] at hq
    refine sp_valueBelow ho ha B (by omega) C hd D.1 ?_
    rw [hd k (by omega) (by omega)]
    refine ⟨by omega, fun q => ⟨by omega, ?_⟩, fun q => ?_⟩
    · rw [if_neg (by omega), Int.add_zero] at hq; exact hq
    · refine sp_hasPlace ho (by omega) C.2.1 h43 (fun _ g => ⟨⟨by omega, by omega⟩, ?_⟩) (fun g => ⟨by omega, ?_⟩)
      · rw [hd _ (by omega) (by omega), C.2.2.2.1 _ (by omega) (by omega), eL]
        refine ⟨by omega, by omega, fun g2 => ⟨by omega, ?_⟩, fun g2 => ⟨by omega, ?_⟩⟩
        · rw [if_neg (by omega), Int.add_zero] at hq; exact hq
        · rw [if_pos ⟨q, by omega, g2⟩] at hq; exact hq
      · rw [if_neg (by omega), Int.add_zero] at hq; exact hq
  refine eX0_turnAhead ho ha (by omega) ?_
  refine sp_hasPlace ho (by omega) C.2.1 h43 (fun _ _ => ?_) (fun g => by omega)
  rw [eL, hd k (by omega) (by omega), C.2.2.2.1 k (by omega) (by omega)]
  refine ⟨fun q => ⟨⟨by omega, by omega⟩, tail (wo s k) (by omega) wk2 (by rw [if_neg (by omega)])⟩, fun q => ⟨⟨by omega, by omega⟩, by omega, by omega, fun g => tail (wo s k) (by omega) wk2 (by rw [if_neg (fun z => g z.2)]), fun g => ⟨⟨by omega, by omega⟩, ?_⟩⟩⟩
  have eL1 : gL σ (o + 12) ((k : Int) - 1) = wo s (k - 1) := by rw [C.2.2.2.2 _ (by omega) (by omega), show ((k : Int) - 1).toNat = k - 1 by omega]
  rw [eL1]
  have w1 := wo_pos hs (k - 1)
  have w2 := B.2.2.2.2.2.1 (k - 1) (by omega)
  exact tail (wo s (k - 1)) (by omega) w2 (by rw [if_pos ⟨by omega, g⟩])
theorem C_soon {σ : ASt} {α : AB} (W : WF α) (C : CAll σ α) {r k : Int} (hr : i32 r) (hk : i32 k) {Q : Int → ASt → Prop} (hq : Q (oSoon α r k) σ) : EvI K_X7_soon [.ref 0, .int (iI r), .int (iI k)] σ Q := by
  unfold oSoon at hq
  refine eX7_soon (sp_reelAt hr (fun r0 r6 => ?_) (fun q => by rw [pit_neg (by omega)] at hq; exact hq))
  rw [pit_pos (by omega)] at hq
  refine reel_split W C r0 r6 (fun hb => by rw [pit_pos hb] at hq; exact hq) (fun hb b0 b2 => ?_)
  obtain ⟨B, D, CC, DD⟩ := reel_facts W C r0 r6 b0 b2
  have h43 := B.h43
  rw [pit_neg hb] at hq
  refine sp_hasPlace (sh_b (by omega)) hk CC.2.1 h43 (fun k0 k1 => ?_) (fun q => by rw [pit_neg (by omega)] at hq; exact hq)
  rw [pit_pos ⟨k0, k1⟩] at hq
  refine sp_allows (sh_b (by omega)) (sh_d (by omega)) B D CC DD (fun g => ?_) (fun g => by rw [pit_neg g] at hq; exact hq)
  rw [pit_pos g] at hq
  obtain ⟨j, rfl⟩ : ∃ j : Nat, k = (j : Int) := ⟨k.toNat, by omega⟩
  have L : LG (rS α r) (rH α r) (rD α r) := ⟨fun i a b => (D.1 i a b).1, g⟩
  have T := turn_spec B L (show j < rH α r by omega)
  have hq2 : Q (sn (rS α r) (rH α r) (va (rS α r) (rD α r) (rH α r)) (rD α r j) j 1000 1) σ := hq
  rw [sn_eq B L (show j < rH α r by omega) 1000 1 (Int.le_refl _) T.1 rfl] at hq2
  have h1 := B.top
  have h2 := wo_pos B.s1 (rH α r)
  have vb := va_bound B D.1 (Nat.le_refl _)
  refine sp_turnAhead (sh_b (by omega)) (sh_d (by omega)) B D g CC DD (by omega) ⟨fun q => ?_, fun q => ?_⟩
  · rw [if_neg (by omega)] at hq2; exact hq2
  · refine sp_valueOf (sh_b (by omega)) (sh_d (by omega)) B CC DD D.1 ⟨by omega, ?_⟩
    rw [CC.2.2.1]
    refine ⟨by omega, fun u => ?_, fun u => ⟨by omega, ?_⟩⟩
    · rw [if_neg (by omega)] at hq2; exact hq2
    · rw [if_pos (by omega)] at hq2; exact hq2
theorem M_soon {σ : ASt} {α : AB} (W : WF α) (C : MAll σ α) {r k : Int} (hr : i32 r) (hk : i32 k) {Q : Int → ASt → Prop} (hq : ∀ τ, MO σ τ → MAll τ α → Q (oSoon α r k) τ) : EvI K_X8_soon [.ref 72, .int (iI r), .int (iI k)] σ Q := by
  unfold oSoon at hq
  refine eX8_soon (sp_refusal_ W C hr hk (Or.inl rfl) (fun q => ⟨fun z => by omega, fun _ => ?_⟩) (fun q hb => ⟨fun z => by omega, fun _ => ?_⟩) (fun r0 r6 hb b0 b2 g => ⟨fun z => by omega, fun _ => ?_⟩) (fun r0 r6 hb b0 b2 g1 g2 => ⟨fun _ => ?_, fun z => absurd rfl z⟩))
  · rw [pit_neg q] at hq; exact hq σ Ag.rf C
  · rw [pit_pos q, pit_pos hb] at hq; exact hq σ Ag.rf C
  · rw [pit_pos (by omega), pit_neg hb, pit_neg (by omega)] at hq; exact hq σ Ag.rf C
  rw [pit_pos (by omega), pit_neg hb, pit_pos (by omega)] at hq
  obtain ⟨B, D, R⟩ := mreel_facts W C r0 r6 b0 b2
  have h43 := B.h43
  have h1 := B.top
  have h2 := wo_pos B.s1 (rH α r)
  have vb := va_bound B D.1 (Nat.le_refl _)
  have dk := D.all k
  refine sp_isLegal R B D.1 r0 r6 b0 b2 (fun g => ?_) (fun g => by rw [pit_neg g] at hq; exact hq σ Ag.rf C)
  rw [pit_pos g] at hq
  refine sp_mvalueOf R B D.1 r0 r6 b0 b2 ?_
  have lp : ∀ (f : Nat) (t : Int) (τ : ASt), 1 ≤ t → t + f = 1001 → Fr (fun a _ => a ≠ 80) σ τ → (∀ υ, MO σ υ → MAll υ α → Q (sn (rS α r) (rH α r) (va (rS α r) (rD α r) (rH α r)) (rD α r k) k f t) υ) → Wx K_X8_soon (QI Q) 35 [(0, .ref 72), (1, .int (iI r)), (2, .int (iI k)), (4, .long (lI (va (rS α r) (rD α r) (rH α r)))), (6, .int (iI t))] [] τ := by
    intro f
    induction f with
    | zero =>
      intro t τ t1 tf A hfin
      exact bX8_soon_35 (by omega) ⟨fun _ => hfin τ A.1 (C.wk W (A.mono (fun a j x => x.1))), fun q => by omega⟩
    | succ f ih =>
      intro t τ t1 tf A hfin
      have C2 := C.wk W (A.mono (fun a j x => x.1))
      obtain ⟨_, _, R2⟩ := mreel_facts W C2 r0 r6 b0 b2
      unfold sn at hfin
      refine bX8_soon_35 (by omega) ⟨fun q => by omega, fun _ => ⟨⟨r0, r6⟩, ?_⟩⟩
      rw [R2.1, R2.2.1.2.2.1]
      refine ⟨⟨b0, by omega⟩, by omega, by omega, fun q => ?_, fun q => ?_⟩
      · rw [if_pos q] at hfin; exact hfin τ A.1 C2
      · rw [if_neg (by omega)] at hfin
        refine sp_makes b0 b2 B R2.2.1 (by omega) (by omega) (fun υ A2 g3 => ⟨⟨g1, by omega⟩, ?_⟩)
        have R3 := R2.fr A2 h43 (fun a j x y => by omega) (by omega) (fun j _ _ => by omega)
        have gk := (gd_DOK B (v := va (rS α r) (rD α r) (rH α r) + t) (by omega) (by omega)).all k
        refine R3.at B D.1 r0 r6 g1 (by omega) ?_
        rw [g3 k g1 (by omega)]
        have A3 := A.trans A2
        refine ⟨by omega, fun q2 => ?_, fun q2 => ?_⟩
        · rw [if_pos q2] at hfin
          exact ih (t + 1) υ (by omega) (by omega) A3 hfin
        · rw [if_neg q2] at hfin
          exact hfin υ A3.1 (C.wk W (A3.mono (fun a j x => x.1)))
  exact lp 1000 1 σ (Int.le_refl _) rfl Fr.rf hq
