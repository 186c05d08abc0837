/-! the class's calls, one by one -/
theorem C_of {σ : ASt} {α : AB} (W : WF α) (C : CAll σ α) {b w : Int} (hb : i32 b) (hw : i32 w) {Q : Int → ASt → Prop} (hq : Q (oOf α b w) σ) : EvI K_X7_of [.ref 0, .int (iI b), .int (iI w)] σ Q := by
  unfold oOf at hq
  refine eX7_of hw (sp_baseAt hb (fun b0 b3 => ?_) (fun q => by rw [pit_neg (by omega)] at hq; exact hq))
  obtain ⟨B, CC⟩ := base_facts W C b0 b3
  refine sp_isWithin hw (by omega) (by omega) (fun w0 w2 => ?_) (fun q => by rw [pit_neg (by omega)] at hq; exact hq)
  rw [pit_pos (by omega)] at hq
  refine ⟨fun q => ⟨fun q1 => ?_, fun q1 => ?_⟩, fun q => ?_⟩
  · rw [pit_neg q, pit_neg q1] at hq
    rw [CC.2.1]
    have := B.h43
    exact ⟨by omega, hq⟩
  · rw [pit_neg q, pit_pos q1] at hq
    rw [CC.1]
    have := B.2.1
    have := B.1
    exact ⟨by omega, hq⟩
  · rw [pit_pos q] at hq
    exact sp_kind2 (sh_b (by omega)) B CC hq
theorem C_worth {σ : ASt} {α : AB} (W : WF α) (C : CAll σ α) {b k w : Int} (hb : i32 b) (hk : i32 k) (hw : i32 w) {Q : Int → ASt → Prop} (hq : Q (oWorth α b k w) σ) : EvL K_X7_worth [.ref 0, .int (iI b), .int (iI k), .int (iI w)] σ Q := by
  unfold oWorth at hq
  refine eX7_worth hw (sp_baseAt hb (fun b0 b3 => ?_) (fun q => by rw [pit_neg (by omega)] at hq; exact hq))
  obtain ⟨B, CC⟩ := base_facts W C b0 b3
  have h43 := B.h43
  refine sp_hasPlace (sh_b (by omega)) hk CC.2.1 h43 (fun k0 k1 => ?_) (fun q => by rw [pit_neg (by omega)] at hq; exact hq)
  refine sp_isWithin hw (by omega) (by omega) (fun w0 w2 => ?_) (fun q => by rw [pit_neg (by omega)] at hq; exact hq)
  rw [pit_pos (by omega)] at hq
  have sk := B.2.2.1 k k0
  have wk := B.2.2.2.2.2.1 k.toNat (by omega)
  have wp := wo_pos B.s1 k.toNat
  refine ⟨fun q => ?_, fun q => ?_⟩
  · rw [pit_neg q] at hq
    rw [CC.2.2.2.1 k k0 (by omega)]
    exact ⟨⟨k0, by omega⟩, by omega, hq⟩
  · rw [pit_pos q] at hq
    rw [CC.2.2.2.2 k k0 k1]
    exact ⟨⟨k0, by omega⟩, by omega, hq⟩
theorem C_top {σ : ASt} {α : AB} (W : WF α) (C : CAll σ α) {b : Int} (hb : i32 b) {Q : Int → ASt → Prop} (hq : Q (oTop α b) σ) : EvL K_X7_top [.ref 0, .int (iI b)] σ Q := by
  unfold oTop at hq
  refine eX7_top (sp_baseAt hb (fun b0 b3 => ?_) (fun q => by rw [pit_neg (by omega)] at hq; exact hq))
  obtain ⟨B, CC⟩ := base_facts W C b0 b3
  have h1 := B.top
  have h2 := wo_pos B.s1 (aH α b.toNat)
  rw [pit_pos (by omega)] at hq
  rw [CC.2.2.1]
  exact ⟨by omega, hq⟩
theorem C_taken {σ : ASt} {α : AB} (W : WF α) (C : CAll σ α) {b k : Int} (hb : i32 b) (hk : i32 k) {Q : Int → ASt → Prop} (hq : Q (oTaken α b k) σ) : EvI K_X7_taken [.ref 0, .int (iI b), .int (iI k)] σ Q := by
  unfold oTaken at hq
  refine eX7_taken (sp_baseAt hb (fun b0 b3 => ?_) (fun q => by rw [pit_neg (by omega)] at hq; exact hq))
  obtain ⟨B, CC⟩ := base_facts W C b0 b3
  refine sp_isWithin hk (by omega) (by omega) (fun k0 k3 => ?_) (fun q => by rw [pit_neg (by omega)] at hq; exact hq)
  rw [pit_pos (by omega)] at hq
  refine sp_kind2 (sh_b (by omega)) B CC ?_
  have kb := kd_b (aS α b.toNat) (aN α b.toNat)
  refine eX7_isUnder (by omega) hk ⟨fun q => ?_, fun q => ⟨fun q2 => ?_, fun q2 => ⟨fun q3 => ?_, fun q3 => ⟨fun q4 => ?_, fun q4 => ?_⟩⟩⟩⟩
  · rw [pit_pos (by omega)] at hq; exact hq
  · rw [pit_pos (by omega)] at hq; exact hq
  · rw [pit_neg (by omega)] at hq; exact hq
  · rw [pit_neg (by omega)] at hq; exact hq
  · rw [pit_pos (by omega)] at hq; exact hq
theorem C_write {σ : ASt} {α : AB} (W : WF α) (C : CAll σ α) {r b v : Int} (hr : i32 r) (hb : i32 b) (hv : i64 v) {Q : Int → ASt → Prop} (hq : ∀ τ, CO σ τ → CAll τ (oWrite α r b v).2 → Q (oWrite α r b v).1 τ) : EvI K_X7_write [.ref 0, .int (iI r), .int (iI b), .long (lI v)] σ Q := by
  have bad : ¬ (okR r ∧ okB b ∧ 0 ≤ v) → Q (-2) σ := fun q => by
    unfold oWrite at hq
    rw [pit_neg q] at hq
    exact hq σ Ag.rf C
  refine eX7_write hv (sp_baseAt hb (fun b0 b3 => sp_reelAt hr (fun r0 r6 => ⟨fun v0 => ?_, fun v0 => bad (by omega)⟩) (fun q => bad (by omega))) (fun q => sp_reelAt hr (fun _ _ => bad (by omega)) (fun _ => bad (by omega))))
  obtain ⟨B, CC⟩ := base_facts W C b0 b3
  have h1 := B.top
  have h2 := wo_pos B.s1 (aH α b.toNat)
  unfold oWrite at hq
  rw [pit_pos (by omega)] at hq
  rw [CC.2.2.1]
  refine ⟨by omega, fun v1 => ?_, fun v1 => ?_⟩
  · rw [pit_pos v1] at hq
    have G := gd_DOK B v0 (by omega)
    refine sp_greedyInto (sh_b (by omega)) rfl B CC v0 hv (fun τ A1 D1 => ?_)
    have C1 : CL τ (aL α) := C.2.2.1.ag A1 (by omega) (by omega) (by omega)
    refine sp_fillReel r0 r6 (b := b.toNat) (by omega) rfl (fun k _ _ => G.all k) D1 C1 W.L32 (fun υ A2 g2 D2 L2 => ?_)
    have A3 : Ag (fun c => c ≠ 6 ∧ c ≠ 42 + r.toNat ∧ c ≠ 42 + r.toNat + 12 ∧ DP c) σ υ := (A1.mono (fun c h => h.1)).trans (A2.mono (fun c h => h.2))
    exact hq υ (A3.mono (fun c h => by refine ⟨?_, ?_, ?_, ?_, ?_, ?_⟩ <;> omega)) (C.fill r0 r6 A3 ⟨fun q => by omega, fun _ => ⟨g2, D2⟩⟩ L2)
  · rw [pit_neg (by omega)] at hq
    exact hq σ Ag.rf C
theorem C_empty {σ : ASt} {α : AB} (W : WF α) (C : CAll σ α) {r : Int} (hr : i32 r) {Q : Int → ASt → Prop} (hq : ∀ τ, CO σ τ → CAll τ (oEmpty α r).2 → Q (oEmpty α r).1 τ) : EvI K_X7_empty [.ref 0, .int (iI r)] σ Q := by
  unfold oEmpty at hq
  refine eX7_empty (sp_reelAt hr (fun r0 r6 => ?_) (fun q => by rw [pit_neg (by omega)] at hq; exact hq σ Ag.rf C))
  rw [pit_pos (by omega)] at hq
  refine reel_split W C r0 r6 (fun hb => by rw [pit_pos hb] at hq; exact hq σ Ag.rf C) (fun hb b0 b2 => ?_)
  rw [pit_neg hb] at hq
  refine sp_clearReel r0 r6 C.2.2.1 W.L32 (fun τ A1 g1 L1 => hq τ (A1.mono (fun c h => by refine ⟨?_, ?_, ?_, ?_⟩ <;> omega)) ?_)
  exact C.fill r0 r6 (A1.mono (fun c h => ⟨h.2.1, h.2.2.2⟩)) ⟨fun _ => g1, fun q => by omega⟩ L1
theorem C_told {σ : ASt} {α : AB} (W : WF α) (C : CAll σ α) {r w : Int} (hr : i32 r) (hw : i32 w) {Q : Int → ASt → Prop} (hq : Q (oTold α r w) σ) : EvI K_X7_told [.ref 0, .int (iI r), .int (iI w)] σ Q := by
  unfold oTold at hq
  refine eX7_told hw (sp_reelAt hr (fun r0 r6 => ?_) (fun q => by rw [pit_neg (by omega)] at hq; exact hq))
  refine sp_isWithin hw (by omega) (by omega) (fun w0 w3 => ?_) (fun q => by rw [pit_neg (by omega)] at hq; exact hq)
  rw [pit_pos (by omega)] at hq
  refine reel_split W C r0 r6 (fun hb => by rw [pit_pos hb] at hq; exact hq) (fun hb b0 b2 => ?_)
  obtain ⟨B, D, CC, DD⟩ := reel_facts W C r0 r6 b0 b2
  rw [pit_neg hb] at hq
  refine ⟨fun q => ?_, fun q => ?_, fun q => ?_, fun q => ?_⟩
  · rw [pit_pos q] at hq
    have e := C.1.1 (rB α r).toNat (by omega)
    rw [e, show (((rB α r).toNat : Nat) : Int) = rB α r by omega]
    exact ⟨by omega, hq⟩
  · rw [pit_neg (by omega), pit_pos q] at hq
    refine sp_allows (sh_b (by omega)) (sh_d (by omega)) B D CC DD (fun g => ?_) (fun g => ?_)
    · rw [pit_pos g] at hq; exact hq
    · rw [pit_neg g] at hq; exact hq
  · rw [pit_neg (by omega), pit_neg (by omega), pit_pos q] at hq
    exact sp_countNotZero (sh_d (by omega)) DD (fun k _ _ => D.all k) hq
  · rw [pit_neg (by omega), pit_neg (by omega), pit_neg (by omega)] at hq
    exact sp_highestNotZero (sh_d (by omega)) DD (fun k _ _ => D.all k) hq
theorem C_at {σ : ASt} {α : AB} (W : WF α) (C : CAll σ α) {r k : Int} (hr : i32 r) (hk : i32 k) {Q : Int → ASt → Prop} (hq : Q (oAt α r k) σ) : EvI K_X7_at [.ref 0, .int (iI r), .int (iI k)] σ Q := by
  unfold oAt at hq
  refine eX7_at (sp_reelAt hr (fun r0 r6 => ?_) (fun q => by rw [pit_neg (by omega)] at hq; exact hq))
  rw [pit_pos (by omega)] at hq
  refine reel_split W C r0 r6 (fun hb => by rw [pit_pos hb] at hq; exact hq) (fun hb b0 b2 => ?_)
  obtain ⟨B, D, CC, DD⟩ := reel_facts W C r0 r6 b0 b2
  have h43 := B.h43
  rw [pit_neg hb] at hq
  refine sp_hasPlace (sh_b (by omega)) hk CC.2.1 h43 (fun k0 k1 => ?_) (fun q => by rw [pit_neg (by omega)] at hq; exact hq)
  rw [pit_pos ⟨k0, k1⟩] at hq
  rw [DD k k0 (by omega)]
  have := D.all k
  exact ⟨⟨k0, by omega⟩, by omega, hq⟩
theorem C_value {σ : ASt} {α : AB} (W : WF α) (C : CAll σ α) {r : Int} (hr : i32 r) {Q : Int → ASt → Prop} (hq : Q (oValue α r) σ) : EvL K_X7_value [.ref 0, .int (iI r)] σ Q := by
  unfold oValue at hq
  refine eX7_value (sp_reelAt hr (fun r0 r6 => ?_) (fun q => by rw [pit_neg (by omega)] at hq; exact hq))
  rw [pit_pos (by omega)] at hq
  refine reel_split W C r0 r6 (fun hb => by rw [pit_pos hb] at hq; exact hq) (fun hb b0 b2 => ?_)
  obtain ⟨B, D, CC, DD⟩ := reel_facts W C r0 r6 b0 b2
  rw [pit_neg hb] at hq
  exact sp_valueOf (sh_b (by omega)) (sh_d (by omega)) B CC DD D.1 hq
/-- a reel's place in the class after a deed -/
theorem CAll.turn {σ τ : ASt} {α : AB} (C : CAll σ α) {r : Int} (r0 : 0 ≤ r) (r6 : r < 6) (b0 : 0 ≤ rB α r) {d : Int → Int} (H : Ag (fun c => c ≠ 6 ∧ c ≠ 42 + r.toNat + 12 ∧ DP c) σ τ) (h1 : CD τ (42 + r.toNat + 12) d) (h2 : CL τ (pushD (aL α) (r, rD α r))) : CAll τ (turn α r d) := by
  have c := (C.2.1 r.toNat (live_r (by omega))).2 b0
  refine C.fill r0 r6 (H.mono (fun c h => ⟨h.1, h.2.2⟩)) ⟨fun q => by omega, fun _ => ⟨?_, h1⟩⟩ h2
  exact (H.P (by refine ⟨?_, ?_, ?_, ?_, ?_⟩ <;> omega) 0).trans c.1
theorem C_digit {σ : ASt} {α : AB} (W : WF α) (C : CAll σ α) {r k d : Int} (hr : i32 r) (hk : i32 k) (hd : i32 d) {Q : Int → ASt → Prop} (hq : ∀ τ, CO σ τ → CAll τ (oDigit α r k d).2 → Q (oDigit α r k d).1 τ) : EvI K_X7_digit [.ref 0, .int (iI r), .int (iI k), .int (iI d)] σ Q := by
  unfold oDigit at hq
  refine eX7_digit (sp_reelAt hr (fun r0 r6 => ?_) (fun q => by rw [pit_neg (by omega)] at hq; exact hq σ Ag.rf C))
  refine sp_isWithin hd (by omega) (by omega) (fun d0 d9 => ?_) (fun q => by rw [pit_neg (by omega)] at hq; exact hq σ Ag.rf C)
  rw [pit_pos (by omega)] at hq
  refine reel_split W C r0 r6 (fun hb => by rw [pit_pos hb] at hq; exact hq σ Ag.rf C) (fun hb b0 b2 => ?_)
  obtain ⟨B, D, CC, DD⟩ := reel_facts W C r0 r6 b0 b2
  have h43 := B.h43
  rw [pit_neg hb] at hq
  refine sp_hasPlace (sh_b (by omega)) hk CC.2.1 h43 (fun k0 k1 => ?_) (fun q => by rw [pit_neg (by omega)] at hq; exact hq σ Ag.rf C)
  rw [pit_pos ⟨k0, k1⟩] at hq
  have dk := D.all k
  refine sp_keep C.2.2.1 (sh_d (by omega)) DD (fun τ A1 L1 => ⟨⟨k0, by omega⟩, ?_⟩)
  have D1 := DD.ag A1 (by refine ⟨?_, ?_, ?_⟩ <;> omega)
  rw [D1 k k0 (by omega)]
  have A2 : Ag (fun c => c ≠ 6 ∧ c ≠ 42 + r.toNat + 12 ∧ DP c) σ (sI τ (42 + r.toNat + 12) k d) := (A1.mono (fun c h => h.2.2)).trans (ag_sI (fun c h => h.2.1))
  refine ⟨by omega, hq _ (A2.mono (fun c h => by refine ⟨?_, ?_, ?_, ?_, ?_⟩ <;> omega)) (C.turn r0 r6 b0 A2 (fun j j0 j1 => ?_) (L1.ag (P := fun c => c ≠ 42 + r.toNat + 12) (ag_sI (fun _ q => q)) (by omega) (by omega) (by omega)))⟩
  unfold st1
  by_cases e : j = k
  · rw [e, gI_self, if_pos rfl]
  · rw [gI_ne _ _ _ e, if_neg e]; exact D1 j j0 j1
/-- an exchange: 1 where it was done -/
theorem C_exchange {σ : ASt} {α : AB} (W : WF α) (C : CAll σ α) {r k z y : Int} (hr : i32 r) (hk : i32 k) (hz : z = 1 ∨ z = -1) {Q : Int → ASt → Prop} (hbad : ∀ e : Int, e ≠ 1 → oExch α r k z y = (e, α) → Q e σ) (hok : ∀ τ, 0 ≤ r → r < 6 → 0 ≤ rB α r → rB α r ≤ 2 → canC (rS α r) (rH α r) (rD α r) k z → DOK (crr (rS α r) (rD α r) k z) (rH α r) → CO σ τ → CAll τ (turn α r (crr (rS α r) (rD α r) k z)) → oExch α r k z y = (crr (rS α r) (rD α r) k z y, turn α r (crr (rS α r) (rD α r) k z)) → Q 1 τ) : EvI K_X7_exchange [.ref 0, .int (iI r), .int (iI k), .int (iI z)] σ Q := by
  unfold oExch at hbad hok
  refine eX7_exchange (sp_reelAt hr (fun r0 r6 => ?_) (fun q => hbad _ (by omega) (pit_neg (by omega))))
  rw [pit_pos (by omega)] at hbad hok
  refine reel_split W C r0 r6 (fun hb => hbad _ (by omega) (pit_pos hb)) (fun hb b0 b2 => ?_)
  obtain ⟨B, D, CC, DD⟩ := reel_facts W C r0 r6 b0 b2
  have h43 := B.h43
  rw [pit_neg hb] at hbad hok
  rw [CC.2.1]
  refine sp_isWithin hk (by omega) (by omega) (fun k0 k1 => ?_) (fun q => hbad _ (by omega) (pit_neg (by omega)))
  rw [pit_pos ⟨k0, k1⟩] at hbad hok
  have na : 24 + (rB α r).toNat + 6 ≠ 42 + r.toNat + 12 := by omega
  refine sp_canCarry (sh_b (by omega)) (sh_d (by omega)) B D CC DD hz k0 (by omega) (fun hc => ?_) (fun hc => hbad _ (by omega) (pit_neg hc))
  rw [pit_pos hc] at hok
  refine sp_keep C.2.2.1 (sh_d (by omega)) DD (fun τ A1 L1 => ?_)
  have D1 := DD.ag A1 (by refine ⟨?_, ?_, ?_⟩ <;> omega)
  have C1 := CC.ag A1 (by refine ⟨?_, ?_, ?_⟩ <;> omega) (by refine ⟨?_, ?_, ?_⟩ <;> omega) (by refine ⟨?_, ?_, ?_⟩ <;> omega)
  refine sp_carryOnce (sh_b (by omega)) (sh_d (by omega)) na B D C1 D1 hz hc (fun υ A2 D2 => ?_)
  have A3 : Ag (fun c => c ≠ 6 ∧ c ≠ 42 + r.toNat + 12 ∧ DP c) σ υ := (A1.mono (fun c h => h.2.2)).trans (A2.mono (fun c h => h.2.1))
  exact hok υ r0 r6 b0 b2 hc (crr_DOK D hc) (A3.mono (fun c h => by refine ⟨?_, ?_, ?_, ?_, ?_⟩ <;> omega)) (C.turn r0 r6 b0 A3 D2 (L1.ag A2 (by omega) (by omega) (by omega))) rfl
theorem turn_rD (α : AB) (r : Int) (d : Int → Int) : rD (turn α r d) r = d := up1_self _ _ _
theorem turn_rB (α : AB) (r q : Int) (d : Int → Int) : rB (turn α r d) q = rB α q := by
  show up1 (aB α) r.toNat (rB α r) q.toNat = aB α q.toNat
  by_cases e : q.toNat = r.toNat
  · rw [e, up1_self]; rfl
  · rw [up1_ne _ _ e]
theorem turn_rH (α : AB) (r q : Int) (d : Int → Int) : rH (turn α r d) q = rH α q := by
  show aH α (rB (turn α r d) q).toNat = aH α (rB α q).toNat
  rw [turn_rB]
theorem WF.turn {α : AB} (W : WF α) {r : Int} (r0 : 0 ≤ r) (r6 : r < 6) (b0 : 0 ≤ rB α r) {d : Int → Int} (hd : DOK d (rH α r)) : WF (turn α r d) := W.deed r0 r6 b0 hd
theorem C_borrow {σ : ASt} {α : AB} (W : WF α) (C : CAll σ α) {r k : Int} (hr : i32 r) (hk : i32 k) {Q : Int → ASt → Prop} (hq : ∀ τ, CO σ τ → CAll τ (oExch α r k (-1) k).2 → Q (oExch α r k (-1) k).1 τ) : EvI K_X7_borrow [.ref 0, .int (iI r), .int (iI k)] σ Q := by
  refine eX7_borrow (C_exchange (y := k) W C hr hk (Or.inr rfl) (fun e he h => ⟨fun _ => ?_, fun q => absurd q he⟩) (fun τ r0 r6 b0 b2 hc hd A1 C1 h => ⟨fun q => absurd rfl q, fun _ => ?_⟩))
  · rw [h] at hq; exact hq σ Ag.rf C
  · rw [h] at hq
    refine C_at (W.turn r0 r6 b0 hd) C1 hr hk ?_
    have hk1 := hc.1
    have hk2 := hc.2.1
    unfold oAt
    rw [pit_pos (by omega), turn_rB, pit_neg (by omega), turn_rH, pit_pos (by omega), turn_rD]
    exact hq τ A1 C1
theorem C_carry {σ : ASt} {α : AB} (W : WF α) (C : CAll σ α) {r k : Int} (hr : i32 r) (hk : i32 k) {Q : Int → ASt → Prop} (hq : ∀ τ, CO σ τ → CAll τ (oExch α r k 1 (k + 1)).2 → Q (oExch α r k 1 (k + 1)).1 τ) : EvI K_X7_carry [.ref 0, .int (iI r), .int (iI k)] σ Q := by
  refine eX7_carry (C_exchange (y := k + 1) W C hr hk (Or.inl rfl) (fun e he h => ⟨fun _ => ?_, fun q => absurd q he⟩) (fun τ r0 r6 b0 b2 hc hd A1 C1 h => ⟨fun q => absurd rfl q, fun _ => ?_⟩))
  · rw [h] at hq; exact hq σ Ag.rf C
  · rw [h] at hq
    have hk1 := hc.1
    have hk2 := hc.2.1
    have h43 := (reel_facts W C r0 r6 b0 b2).1.h43
    refine C_at (W.turn r0 r6 b0 hd) C1 hr (by omega) ?_
    unfold oAt
    rw [pit_pos (by omega), turn_rB, pit_neg (by omega), turn_rH, pit_pos (by omega), turn_rD]
    exact hq τ A1 C1
theorem C_settle {σ : ASt} {α : AB} (W : WF α) (C : CAll σ α) {r : Int} (hr : i32 r) {Q : Int → ASt → Prop} (hq : ∀ τ, CO σ τ → CAll τ (oSettle α r).2 → Q (oSettle α r).1 τ) : EvI K_X7_settle [.ref 0, .int (iI r)] σ Q := by
  unfold oSettle at hq
  refine eX7_settle (sp_reelAt hr (fun r0 r6 => ?_) (fun q => by rw [pit_neg (by omega)] at hq; exact hq σ Ag.rf C))
  rw [pit_pos (by omega)] at hq
  refine reel_split W C r0 r6 (fun hb => by rw [pit_pos hb] at hq; exact hq σ Ag.rf C) (fun hb b0 b2 => ?_)
  obtain ⟨B, D, CC, DD⟩ := reel_facts W C r0 r6 b0 b2
  rw [pit_neg hb] at hq
  have na : 24 + (rB α r).toNat + 6 ≠ 42 + r.toNat + 12 := by omega
  refine sp_keep C.2.2.1 (sh_d (by omega)) DD (fun τ A1 L1 => ?_)
  have D1 := DD.ag A1 (by refine ⟨?_, ?_, ?_⟩ <;> omega)
  have C1 := CC.ag A1 (by refine ⟨?_, ?_, ?_⟩ <;> omega) (by refine ⟨?_, ?_, ?_⟩ <;> omega) (by refine ⟨?_, ?_, ?_⟩ <;> omega)
  refine sp_settleAll (sh_b (by omega)) (sh_d (by omega)) na B D C1 D1 (fun m d' υ hst hD A2 D2 => ?_)
  rw [stlP_eq hst] at hq
  have A3 : Ag (fun c => c ≠ 6 ∧ c ≠ 42 + r.toNat + 12 ∧ DP c) σ υ := (A1.mono (fun c h => h.2.2)).trans (A2.mono (fun c h => h.2.1))
  exact hq υ (A3.mono (fun c h => by refine ⟨?_, ?_, ?_, ?_, ?_⟩ <;> omega)) (C.turn r0 r6 b0 A3 D2 (L1.ag A2 (by omega) (by omega) (by omega)))
theorem C_turnTo {σ : ASt} {α : AB} (W : WF α) (C : CAll σ α) {r v : Int} (r0 : 0 ≤ r) (r6 : r < 6) (b0 : 0 ≤ rB α r) (b2 : rB α r ≤ 2) (v0 : 0 ≤ v) (v1 : v ≤ rTop α r) {Q : Int → ASt → Prop} (hq : ∀ τ, CO σ τ → CAll τ (tun α r v).2 → Q (tun α r v).1 τ) : EvI K_X7_turnTo [.ref 0, .int (iI r), .ref (24 + (rB α r).toNat), .ref (42 + r.toNat + 12), .long (lI v)] σ Q := by
  obtain ⟨B, D, CC, DD⟩ := reel_facts W C r0 r6 b0 b2
  have h1 := B.top
  unfold rTop at v1
  have G := gd_DOK B v0 (by omega)
  refine eX7_turnTo (sh_b (by omega)) (sh_d (by omega)) (sp_keep C.2.2.1 (sh_d (by omega)) DD (fun τ A1 L1 => ?_))
  have D1 := DD.ag A1 (by refine ⟨?_, ?_, ?_⟩ <;> omega)
  have C1 := CC.ag A1 (by refine ⟨?_, ?_, ?_⟩ <;> omega) (by refine ⟨?_, ?_, ?_⟩ <;> omega) (by refine ⟨?_, ?_, ?_⟩ <;> omega)
  refine sp_greedyInto (sh_b (by omega)) rfl B C1 v0 (by omega) (fun υ A2 D2 => ?_)
  have D3 := D1.ag A2 (by omega)
  refine sp_countUnlike (sh_d (by omega)) rfl D3 D2 (fun k _ _ => D.all k) (fun k _ _ => G.all k) ?_
  refine sp_copyDigits rfl (sh_d (by omega)) D2 (fun ω A3 D4 => ?_)
  have A4 : Ag (fun c => c ≠ 6 ∧ c ≠ 42 + r.toNat + 12 ∧ DP c) σ ω := ((A1.mono (fun c h => h.2.2)).trans (A2.mono (fun c h => h.1))).trans (A3.mono (fun c h => h.2.1))
  exact hq ω (A4.mono (fun c h => by refine ⟨?_, ?_, ?_, ?_, ?_⟩ <;> omega)) (C.turn r0 r6 b0 A4 D4 ((L1.ag A2 (by omega) (by omega) (by omega)).ag A3 (by omega) (by omega) (by omega)))
theorem C_right {σ : ASt} {α : AB} (W : WF α) (C : CAll σ α) {r : Int} (hr : i32 r) {Q : Int → ASt → Prop} (hq : ∀ τ, CO σ τ → CAll τ (oRight α r).2 → Q (oRight α r).1 τ) : EvI K_X7_right [.ref 0, .int (iI r)] σ Q := by
  unfold oRight at hq
  refine eX7_right (sp_reelAt hr (fun r0 r6 => ?_) (fun q => by rw [pit_neg (by omega)] at hq; exact hq σ Ag.rf C))
  rw [pit_pos (by omega)] at hq
  refine reel_split W C r0 r6 (fun hb => by rw [pit_pos hb] at hq; exact hq σ Ag.rf C) (fun hb b0 b2 => ?_)
  obtain ⟨B, D, CC, DD⟩ := reel_facts W C r0 r6 b0 b2
  rw [pit_neg hb] at hq
  have h1 := B.top
  have h2 := wo_pos B.s1 (rH α r)
  have vb := va_bound B D.1 (Nat.le_refl _)
  refine sp_valueOf (sh_b (by omega)) (sh_d (by omega)) B CC DD D.1 ?_
  rw [CC.2.2.1]
  refine ⟨by omega, fun q => ?_, fun q => ?_⟩
  · rw [pit_pos (show rV α r ≤ rTop α r from q)] at hq
    exact C_turnTo W C r0 r6 b0 b2 vb.1 q hq
  · rw [pit_neg (show ¬ rV α r ≤ rTop α r from Int.not_le.mpr q)] at hq
    exact hq σ Ag.rf C
theorem C_shift {σ : ASt} {α : AB} (W : WF α) (C : CAll σ α) {r n : Int} (hr : i32 r) (hn : i32 n) {Q : Int → ASt → Prop} (hq : ∀ τ, CO σ τ → CAll τ (oShift α r n).2 → Q (oShift α r n).1 τ) : EvI K_X7_shift [.ref 0, .int (iI r), .int (iI n)] σ Q := by
  unfold oShift at hq
  refine eX7_shift (sp_reelAt hr (fun r0 r6 => ?_) (fun q => by rw [pit_neg (by omega)] at hq; exact hq σ Ag.rf C))
  refine sp_isWithin hn (by omega) (by omega) (fun n0 n9 => ?_) (fun q => by rw [pit_neg (by omega)] at hq; exact hq σ Ag.rf C)
  rw [pit_pos (by omega)] at hq
  refine reel_split W C r0 r6 (fun hb => by rw [pit_pos hb] at hq; exact hq σ Ag.rf C) (fun hb b0 b2 => ?_)
  obtain ⟨B, D, CC, DD⟩ := reel_facts W C r0 r6 b0 b2
  rw [pit_neg hb] at hq
  refine sp_keep C.2.2.1 (sh_d (by omega)) DD (fun τ A1 L1 => ?_)
  have D1 := DD.ag A1 (by refine ⟨?_, ?_, ?_⟩ <;> omega)
  have C1 := CC.ag A1 (by refine ⟨?_, ?_, ?_⟩ <;> omega) (by refine ⟨?_, ?_, ?_⟩ <;> omega) (by refine ⟨?_, ?_, ?_⟩ <;> omega)
  refine sp_countNotZero (sh_d (by omega)) D1 (fun k _ _ => D.all k) ?_
  refine sp_shiftInto (sh_b (by omega)) rfl (sh_d (by omega)) (by omega) B C1 D1 ⟨n0, n9⟩ (fun υ A2 D2 => ?_)
  have S := shf_DOK D n
  refine sp_copyDigits rfl (sh_d (by omega)) D2 (fun ω A3 D3 => ?_)
  have c1 := ct_b (rD α r) 43
  have c2 := ct_b (shf (rD α r) (rH α r) n) 43
  refine sp_countNotZero (sh_d (by omega)) D3 (fun k _ _ => S.all k) ⟨by omega, ?_⟩
  have A4 : Ag (fun c => c ≠ 6 ∧ c ≠ 42 + r.toNat + 12 ∧ DP c) σ ω := ((A1.mono (fun c h => h.2.2)).trans (A2.mono (fun c h => h.1))).trans (A3.mono (fun c h => h.2.1))
  exact hq ω (A4.mono (fun c h => by refine ⟨?_, ?_, ?_, ?_, ?_⟩ <;> omega)) (C.turn r0 r6 b0 A4 D3 ((L1.ag A2 (by omega) (by omega) (by omega)).ag A3 (by omega) (by omega) (by omega)))
theorem C_on {σ : ASt} {α : AB} (W : WF α) (C : CAll σ α) {r t : Int} (hr : i32 r) (ht : i32 t) {Q : Int → ASt → Prop} (hq : ∀ τ, CO σ τ → CAll τ (oOn α r t).2 → Q (oOn α r t).1 τ) : EvI K_X7_on [.ref 0, .int (iI r), .int (iI t)] σ Q := by
  unfold oOn at hq
  refine eX7_on ht (sp_reelAt hr (fun r0 r6 => ?_) (fun q => by rw [pit_neg (by omega)] at hq; exact hq σ Ag.rf C))
  refine sp_isWithin ht (by omega) (by omega) (fun t0 t9 => ?_) (fun q => by rw [pit_neg (by omega)] at hq; exact hq σ Ag.rf C)
  rw [pit_pos (by omega)] at hq
  refine reel_split W C r0 r6 (fun hb => by rw [pit_pos hb] at hq; exact hq σ Ag.rf C) (fun hb b0 b2 => ?_)
  obtain ⟨B, D, CC, DD⟩ := reel_facts W C r0 r6 b0 b2
  rw [pit_neg hb] at hq
  have h1 := B.top
  have h2 := wo_pos B.s1 (rH α r)
  have vb := va_bound B D.1 (Nat.le_refl _)
  refine sp_allows (sh_b (by omega)) (sh_d (by omega)) B D CC DD (fun g => ?_) (fun g => by rw [pit_neg g] at hq; exact hq σ Ag.rf C)
  rw [pit_pos g] at hq
  refine sp_valueOf (sh_b (by omega)) (sh_d (by omega)) B CC DD D.1 ?_
  rw [CC.2.2.1]
  have ev : rV α r = va (rS α r) (rD α r) (rH α r) := rfl
  have et : rTop α r = wo (rS α r) (rH α r) - 1 := rfl
  refine ⟨by omega, fun q => ?_, fun q => ⟨by omega, fun q2 => ?_, fun q2 => ?_⟩⟩
  · rw [pit_neg (by omega)] at hq; exact hq σ Ag.rf C
  · rw [pit_pos (by omega)] at hq
    exact C_turnTo W C r0 r6 b0 b2 q q2 hq
  · rw [pit_neg (by omega)] at hq; exact hq σ Ag.rf C
