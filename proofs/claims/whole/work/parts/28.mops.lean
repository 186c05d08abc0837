/-! the reference's calls, first batch -/
theorem sp_mkind {b n : Int} {s : Int → Int} {h : Nat} {σ : ASt} (b0 : 0 ≤ b) (b2 : b ≤ 2) (B : BOK s n h) (M : MB σ b s n h) {Q : Int → ASt → Prop} (hq : Q (kd s n) σ) : EvI K_X8_kind [.ref 72, .int (iI b)] σ Q := by
  have n1 := B.1
  have n8 := B.2.1
  have lp : ∀ (m : Nat) (k : Int), 1 ≤ k → k + m = n → (∀ j : Int, 0 ≤ j → j < k → s j = s 0) → Wx K_X8_kind (QI Q) 2 [(0, .ref 72), (1, .int (iI b)), (2, .int (iI k))] [] σ := by
    intro m
    induction m with
    | zero =>
      intro k k0 hk hl
      have E : EVN s n := fun j a c => hl j a (by omega)
      unfold kd at hq
      rw [pit_pos E] at hq
      refine bX8_kind_2 (by omega) ⟨⟨b0, by omega⟩, by rw [M.1]; omega, fun _ => sp_step b0 b2 B M (by omega) (by omega) ⟨fun q1 => sp_step b0 b2 B M (by omega) (by omega) ⟨fun q2 => ?_, fun q2 => ?_⟩, fun q1 => ?_⟩, fun q => by rw [M.1] at q; omega⟩
      · rwa [if_neg q1, if_neg q2] at hq
      · rwa [if_neg q1, if_pos q2] at hq
      · rwa [if_pos q1] at hq
    | succ m ih =>
      intro k k0 hk hl
      refine bX8_kind_2 (by omega) ⟨⟨b0, by omega⟩, by rw [M.1]; omega, fun q => by rw [M.1] at q; omega, fun _ => sp_step b0 b2 B M (by omega) (by omega) (sp_step b0 b2 B M (by omega) (by omega) ⟨fun q => ih (k + 1) (by omega) (by omega) (fun j a c => ?_), fun q => ?_⟩)⟩
      · by_cases e : j = k
        · rw [e]; exact q
        · exact hl j a (by omega)
      · unfold kd at hq
        rw [pit_neg (fun E => q (E k (by omega) (by omega)))] at hq
        exact hq
  exact eX8_kind (lp (n - 1).toNat 1 (by omega) (by omega) (fun j a c => by rw [show j = 0 by omega]))
theorem M_of {σ : ASt} {α : AB} (W : WF α) (C : MAll σ α) {b w : Int} (hb : i32 b) (hw : i32 w) {Q : Int → ASt → Prop} (hq : Q (oOf α b w) σ) : EvI K_X8_of [.ref 72, .int (iI b), .int (iI w)] σ Q := by
  unfold oOf at hq
  refine eX8_of hw (sp_mBase hb (fun b0 b3 => ?_) (fun q => by rw [pit_neg (by omega)] at hq; exact hq))
  obtain ⟨B, M⟩ := mbase_facts W C b0 b3
  refine sp_in (by omega) (by omega) (by omega) (fun w0 w2 => ?_) (fun q => by rw [pit_neg (by omega)] at hq; exact hq)
  rw [pit_pos (by omega)] at hq
  refine ⟨fun q => ⟨fun q1 => ?_, fun q1 => ?_⟩, fun q => ?_⟩
  · rw [pit_neg q, pit_neg q1] at hq
    rw [M.2.1]
    have := B.h43
    exact ⟨⟨b0, b3⟩, by omega, hq⟩
  · rw [pit_neg q, pit_pos q1] at hq
    rw [M.1]
    have := B.2.1
    have := B.1
    exact ⟨⟨b0, b3⟩, by omega, hq⟩
  · rw [pit_pos q] at hq
    exact sp_mkind b0 (by omega) B M hq
theorem M_worth {σ : ASt} {α : AB} (W : WF α) (C : MAll σ α) {b k w : Int} (hb : i32 b) (hk : i32 k) (hw : i32 w) {Q : Int → ASt → Prop} (hq : Q (oWorth α b k w) σ) : EvL K_X8_worth_ [.ref 72, .int (iI b), .int (iI k), .int (iI w)] σ Q := by
  unfold oWorth at hq
  refine eX8_worth_ hk hw (sp_mBase hb (fun b0 b3 => ⟨⟨b0, b3⟩, ?_⟩) (fun q => by rw [pit_neg (by omega)] at hq; exact hq))
  obtain ⟨B, M⟩ := mbase_facts W C b0 b3
  have h43 := B.h43
  rw [M.2.1]
  refine ⟨by omega, ?_⟩
  refine sp_in (by omega) (by omega) (by omega) (fun k0 k1 => ?_) (fun q => by rw [pit_neg (by omega)] at hq; exact hq)
  refine sp_in (by omega) (by omega) (by omega) (fun w0 w2 => ?_) (fun q => by rw [pit_neg (by omega)] at hq; exact hq)
  rw [pit_pos (by omega)] at hq
  refine ⟨fun q => ?_, fun q => ?_⟩
  · rw [pit_neg q] at hq
    exact sp_step b0 (by omega) B M k0 (by omega) hq
  · rw [pit_pos q] at hq
    exact sp_mworth b0 (by omega) B M k0 (by omega) hq
theorem M_top {σ : ASt} {α : AB} (W : WF α) (C : MAll σ α) {b : Int} (hb : i32 b) {Q : Int → ASt → Prop} (hq : Q (oTop α b) σ) : EvL K_X8_top [.ref 72, .int (iI b)] σ Q := by
  unfold oTop at hq
  refine eX8_top (sp_mBase hb (fun b0 b3 => ⟨⟨b0, b3⟩, ?_⟩) (fun q => by rw [pit_neg (by omega)] at hq; exact hq))
  obtain ⟨B, M⟩ := mbase_facts W C b0 b3
  have h1 := B.top
  have h2 := wo_pos B.s1 (aH α b.toNat)
  rw [pit_pos (by omega)] at hq
  rw [M.2.2.1]
  exact ⟨by omega, hq⟩
theorem M_taken {σ : ASt} {α : AB} (W : WF α) (C : MAll σ α) {b k : Int} (hb : i32 b) (hk : i32 k) {Q : Int → ASt → Prop} (hq : Q (oTaken α b k) σ) : EvI K_X8_taken [.ref 72, .int (iI b), .int (iI k)] σ Q := by
  unfold oTaken at hq
  refine eX8_taken hk (sp_mBase hb (fun b0 b3 => ?_) (fun q => by rw [pit_neg (by omega)] at hq; exact hq))
  obtain ⟨B, M⟩ := mbase_facts W C b0 b3
  refine sp_in (by omega) (by omega) (by omega) (fun k0 k3 => ?_) (fun q => by rw [pit_neg (by omega)] at hq; exact hq)
  rw [pit_pos (by omega)] at hq
  refine sp_mkind b0 (by omega) B M ?_
  have kb := kd_b (aS α b.toNat) (aN α b.toNat)
  refine ⟨fun q => ?_, fun q => ⟨fun q2 => ?_, fun q2 => ⟨fun q3 => ?_, fun q3 => ⟨fun q4 => ?_, fun q4 => ?_⟩⟩⟩⟩
  · rw [pit_pos (by omega)] at hq; exact hq
  · rw [pit_pos (by omega)] at hq; exact hq
  · rw [pit_neg (by omega)] at hq; exact hq
  · rw [pit_neg (by omega)] at hq; exact hq
  · rw [pit_pos (by omega)] at hq; exact hq
/-- filled with what lies in the working row -/
theorem sp_mfill {σ τ : ASt} {α : AB} (W : WF α) (C : MAll σ α) (H : Fr WK σ τ) {r b : Int} (r0 : 0 ≤ r) (r6 : r < 6) (b0 : 0 ≤ b) (b3 : b < 3) {g : Int → Int} (G : DOK g (aH α b.toNat)) (hg : ∀ k : Int, 0 ≤ k → k < aH α b.toNat → gI τ 80 k = g k) {Q : Int → ASt → Prop} (hq : ∀ υ, MO σ υ → MAll υ (fill α r b g) → Q (ct g 43) υ) : EvI K_X8_holds [.ref 72, .int (iI r), .int (iI b)] τ Q := by
  have C1 := C.wk W H
  obtain ⟨B, M⟩ := mbase_facts W C1 b0 b3
  have h43 := B.h43
  refine sp_holds C1.2.2.1 W.Lb C1.2.2.2.2.2.2 r0 r6 b0 (by omega) B M (fun k _ _ => G.all k) hg (fun υ A1 R1 L1 D1 => ?_)
  rw [← ct_h G h43]
  refine hq υ (H.1.trans A1.1) (C.fill W r0 r6 ((H.mono (fun a j x => x.2)).trans (A1.mono (fun a j x => x.1))) ⟨R1.1, fun _ => R1.2.2⟩ (L1.congr (fgt_rH W r0)) D1)
/-- turned by a deed -/
theorem MAll.turn {σ τ : ASt} {α : AB} (W : WF α) (C : MAll σ α) {r : Int} (r0 : 0 ≤ r) (r6 : r < 6) {d : Int → Int} (H : Fr (fun a j => HP8 r a j ∧ WK a j) σ τ) (h1 : gI τ 78 r = rB α r) (h2 : ∀ k : Int, 0 ≤ k → k < rH α r → gI τ 79 (50 * r + k) = d k) (h3 : ML τ (pushD (aL α) (r, rD α r)) (rH α)) (h4 : MD τ) : MAll τ (turn α r d) :=
  C.fill W r0 r6 H ⟨h1, fun _ => h2⟩ (h3.congr (fun x _ => turn_rH' x.1)) h4
theorem MD.put {σ τ : ASt} {r : Int} (D : MD σ) (m82 : M82 τ) (H : Fr (fun a j => (a = 79 ∧ ¬ (50 * r ≤ j ∧ j < 50 * r + 50)) ∨ a = 100) σ τ) {h : Nat} (hc : ∀ j : Int, 50 * r ≤ j → j < 50 * r + 50 → (50 * r ≤ j ∧ j < 50 * r + h ∧ 0 ≤ gI τ 79 j ∧ gI τ 79 j ≤ 99) ∨ gI τ 79 j = gI σ 79 j) : MD τ := fun j a => ⟨fun c => by
    by_cases z : 50 * r ≤ j ∧ j < 50 * r + 50
    · rcases hc j z.1 z.2 with q | q
      · exact q.2.2
      · rw [q]; exact (D j a).1 c
    · rw [H.I (by omega)]; exact (D j a).1 c, fun c => m82 j a c, fun c => by rw [H.I (by omega)]; exact (D j a).2.2 c⟩
theorem sp_mdoes {σ τ : ASt} {α : AB} (W : WF α) (C : MAll σ α) (H : Fr WK σ τ) {r : Int} (r0 : 0 ≤ r) (r6 : r < 6) (b0 : 0 ≤ rB α r) {Q : ASt → Prop} (hq : ∀ υ, Fr DP8 τ υ → ML υ (pushD (aL α) (r, rD α r)) (rH α) → M82 υ → Q υ) : EvV K_X8_does [.ref 72, .int (iI r)] τ Q := by
  have C1 := C.wk W H
  have D1 := C1.2.2.2.2.2.2
  exact sp_does r0 r6 C1.2.2.1 (fun x hx => (W.Lb x hx).2) (rH43 W r0 r6 b0) (fun j a c => (D1 j a).1 c) ((C1.2.1 r r0 r6).2 b0) (fun j a c => (D1 j a).2.1 c) hq
/-- the working row laid over a reel behind a deed -/
theorem sp_mtakes {σ τ : ASt} {α : AB} (W : WF α) (C : MAll σ α) {r : Int} (r0 : 0 ≤ r) (r6 : r < 6) (b0 : 0 ≤ rB α r) (b2 : rB α r ≤ 2) {g : Int → Int} (G : DOK g (rH α r)) (H : Fr (fun a j => DP8 a j ∧ WK a j) σ τ) (h3 : ML τ (pushD (aL α) (r, rD α r)) (rH α)) (m82 : M82 τ) (hg : ∀ k : Int, 0 ≤ k → k < rH α r → gI τ 80 k = g k) {Q : Int → ASt → Prop} (hq : ∀ υ, MO σ υ → MAll υ (turn α r g) → Q (ct (fun k => rD α r k - g k) 43) υ) : EvI K_X8_takes [.ref 72, .int (iI r)] τ Q := by
  obtain ⟨B, D, R⟩ := mreel_facts W C r0 r6 b0 b2
  have h43 := B.h43
  have R1 := R.fr H h43 (fun a j x y => ⟨by omega, wk_ar (by omega)⟩) ⟨by omega, wk_ar (by omega)⟩ (fun j _ _ => ⟨by omega, wk_ar (by omega)⟩)
  refine sp_takes R1 B D.1 (fun k _ _ => G.all k) hg r0 r6 b0 b2 (fun υ A2 R2 => ?_)
  have e : ct (fun k => rD α r k - g k) 43 = ct (fun k => rD α r k - g k) (rH α r) := ct_split h43 (fun k a _ => by
    have := D.2 k (Or.inr (by omega))
    have := G.2 k (Or.inr (by omega))
    omega)
  rw [← e]
  have A3 : Fr (fun a j => HP8 r a j ∧ WK a j) σ υ := (H.mono (fun a j x => ⟨by omega, x.2⟩)).trans (A2.mono (fun a j x => by omega))
  refine hq υ (H.1.trans A2.1) (C.turn W r0 r6 A3 R2.1 R2.2.2 (h3.fr A2 (by omega) (fun _ => by omega) (fun _ => by omega)) (C.2.2.2.2.2.2.put (r := r) (h := rH α r) (m82.fr A2 (fun _ => by omega)) (A3.mono (fun a j x => ⟨by omega, wk_ar (by omega)⟩)) (fun j a c => ?_)))
  by_cases z : j < 50 * r + rH α r
  · left
    have e := R2.2.2 (j - 50 * r) (by omega) (by omega)
    rw [show 50 * r + (j - 50 * r) = j by omega] at e
    have := G.all (j - 50 * r)
    exact ⟨a, z, by omega, by omega⟩
  · right
    rw [A2.I (by omega), H.I ⟨by omega, wk_ar (by omega)⟩]
theorem M_write {σ : ASt} {α : AB} (W : WF α) (C : MAll σ α) {r b v : Int} (hr : i32 r) (hb : i32 b) (hv : i64 v) {Q : Int → ASt → Prop} (hq : ∀ τ, MO σ τ → MAll τ (oWrite α r b v).2 → Q (oWrite α r b v).1 τ) : EvI K_X8_write [.ref 72, .int (iI r), .int (iI b), .long (lI v)] σ Q := by
  have bad : ¬ (okR r ∧ okB b ∧ 0 ≤ v) → Q (-2) σ := fun q => by
    unfold oWrite at hq
    rw [pit_neg q] at hq
    exact hq σ Ag.rf C
  refine eX8_write hv (sp_mReel hr (fun r0 r6 => sp_mBase hb (fun b0 b3 => ⟨fun v0 => ⟨⟨b0, b3⟩, ?_⟩, fun v0 => bad (by omega)⟩) (fun q => bad (by omega))) (fun q => bad (by omega)))
  obtain ⟨B, M⟩ := mbase_facts W C b0 b3
  have h1 := B.top
  have h2 := wo_pos B.s1 (aH α b.toNat)
  unfold oWrite at hq
  rw [pit_pos (by omega)] at hq
  rw [M.2.2.1]
  refine ⟨by omega, fun v1 => ?_, fun v1 => ?_⟩
  · rw [pit_pos v1] at hq
    refine sp_makes b0 (by omega) B M v0 hv (fun τ A1 g1 => ?_)
    exact sp_mfill W C (A1.mono (fun a j x => x.1)) r0 r6 b0 b3 (gd_DOK B v0 (by omega)) g1 hq
  · rw [pit_neg (by omega)] at hq
    exact hq σ Ag.rf C
theorem M_empty {σ : ASt} {α : AB} (W : WF α) (C : MAll σ α) {r : Int} (hr : i32 r) {Q : Int → ASt → Prop} (hq : ∀ τ, MO σ τ → MAll τ (oEmpty α r).2 → Q (oEmpty α r).1 τ) : EvI K_X8_empty [.ref 72, .int (iI r)] σ Q := by
  unfold oEmpty at hq
  refine eX8_empty (sp_mReel hr (fun r0 r6 => ?_) (fun q => by rw [pit_neg (by omega)] at hq; exact hq σ Ag.rf C))
  rw [pit_pos (by omega)] at hq
  refine sp_mEmpty W C.2.1 r0 r6 (fun hb => by rw [pit_pos hb] at hq; exact hq σ Ag.rf C) (fun hb b0 b2 => ⟨⟨r0, r6⟩, ?_⟩)
  rw [pit_neg hb] at hq
  have A1 : Fr (fun a j => ¬ (a = 78 ∧ j = r)) σ (sI σ 78 r (-1)) := fr_sI (by omega) (fun a j x => x)
  have D := C.2.2.2.2.2.2
  refine sp_mforgets (C.2.2.1.fr A1 (by omega) (fun _ => by omega) (fun _ => by omega)) W.Lb (fun j a c => by rw [A1.I (by omega)]; exact (D j a).2.1 c) (by omega) (fun τ A2 L2 h82 => hq τ (A1.1.trans A2.1) ?_)
  have A3 : Fr (fun a j => HP8 r a j ∧ WK a j) σ τ := (A1.mono (fun a j x => x.1.1)).trans (A2.mono (fun a j x => by omega))
  refine C.fill W r0 r6 A3 ⟨by rw [A2.I (by omega), gI_self], fun z => by omega⟩ (L2.congr (fgt_rH W r0)) (fun j a => ⟨fun c => ?_, fun c => h82 j a c, fun c => ?_⟩)
  · rw [A2.I (by omega), A1.I (by omega)]; exact (D j a).1 c
  · rw [A2.I (by omega), A1.I (by omega)]; exact (D j a).2.2 c
theorem M_told {σ : ASt} {α : AB} (W : WF α) (C : MAll σ α) {r w : Int} (hr : i32 r) (hw : i32 w) {Q : Int → ASt → Prop} (hq : Q (oTold α r w) σ) : EvI K_X8_told [.ref 72, .int (iI r), .int (iI w)] σ Q := by
  unfold oTold at hq
  refine eX8_told hw (sp_mReel hr (fun r0 r6 => ?_) (fun q => by rw [pit_neg (by omega)] at hq; exact hq))
  refine sp_in (by omega) (by omega) (by omega) (fun w0 w3 => ?_) (fun q => by rw [pit_neg (by omega)] at hq; exact hq)
  rw [pit_pos (by omega)] at hq
  refine sp_mEmpty W C.2.1 r0 r6 (fun hb => by rw [pit_pos hb] at hq; exact hq) (fun hb b0 b2 => ?_)
  obtain ⟨B, D, R⟩ := mreel_facts W C r0 r6 b0 b2
  rw [pit_neg hb] at hq
  refine ⟨fun q => ⟨fun q1 => ⟨fun q2 => ?_, fun q2 => ?_⟩, fun q1 => ?_⟩, fun q => ⟨⟨r0, r6⟩, ?_⟩⟩
  · rw [pit_neg q, pit_neg q1, pit_neg q2, hg_h D B.h43] at hq
    exact sp_mhighest R B D.1 r0 r6 b0 b2 hq
  · rw [pit_neg q, pit_neg q1, pit_pos q2, ct_h D B.h43] at hq
    exact sp_filled R B D.1 r0 r6 b0 b2 hq
  · rw [pit_neg q, pit_pos q1] at hq
    refine sp_isLegal R B D.1 r0 r6 b0 b2 (fun g => ?_) (fun g => ?_)
    · rw [pit_pos g] at hq; exact hq
    · rw [pit_neg g] at hq; exact hq
  · rw [pit_pos q] at hq
    rw [R.1]
    exact ⟨by omega, hq⟩
theorem M_at {σ : ASt} {α : AB} (W : WF α) (C : MAll σ α) {r k : Int} (hr : i32 r) (hk : i32 k) {Q : Int → ASt → Prop} (hq : Q (oAt α r k) σ) : EvI K_X8_at [.ref 72, .int (iI r), .int (iI k)] σ Q := by
  unfold oAt at hq
  refine eX8_at (sp_refusal_ W C hr hk (Or.inl rfl) (fun q => ⟨fun z => by omega, fun _ => ?_⟩) (fun q hb => ⟨fun z => by omega, fun _ => ?_⟩) (fun r0 r6 hb b0 b2 g => ⟨fun z => by omega, fun _ => ?_⟩) (fun r0 r6 hb b0 b2 g1 g2 => ⟨fun _ => ?_, fun z => absurd rfl z⟩))
  · rw [pit_neg q] at hq; exact hq
  · rw [pit_pos q, pit_pos hb] at hq; exact hq
  · rw [pit_pos (by omega), pit_neg hb, pit_neg (by omega)] at hq; exact hq
  · rw [pit_pos (by omega), pit_neg hb, pit_pos (by omega)] at hq
    obtain ⟨B, D, R⟩ := mreel_facts W C r0 r6 b0 b2
    exact R.at B D.1 r0 r6 g1 (by omega) hq
theorem M_value {σ : ASt} {α : AB} (W : WF α) (C : MAll σ α) {r : Int} (hr : i32 r) {Q : Int → ASt → Prop} (hq : Q (oValue α r) σ) : EvL K_X8_value [.ref 72, .int (iI r)] σ Q := by
  unfold oValue at hq
  refine eX8_value (sp_refusal W C.2.1 hr (fun q => ⟨fun z => by omega, fun _ => ?_⟩) (fun q hb => ⟨fun z => by omega, fun _ => ?_⟩) (fun r0 r6 hb b0 b2 => ⟨fun _ => ?_, fun z => absurd rfl z⟩))
  · rw [pit_neg q] at hq; exact hq
  · rw [pit_pos q, pit_pos hb] at hq; exact hq
  · rw [pit_pos (by omega), pit_neg hb] at hq
    obtain ⟨B, D, R⟩ := mreel_facts W C r0 r6 b0 b2
    exact sp_mvalueOf R B D.1 r0 r6 b0 b2 hq
theorem M_digit {σ : ASt} {α : AB} (W : WF α) (C : MAll σ α) {r k d : Int} (hr : i32 r) (hk : i32 k) (hd : i32 d) {Q : Int → ASt → Prop} (hq : ∀ τ, MO σ τ → MAll τ (oDigit α r k d).2 → Q (oDigit α r k d).1 τ) : EvI K_X8_digit [.ref 72, .int (iI r), .int (iI k), .int (iI d)] σ Q := by
  unfold oDigit at hq
  refine eX8_digit hd (sp_mReel hr (fun r0 r6 => ?_) (fun q => by rw [pit_neg (by omega)] at hq; exact hq σ Ag.rf C))
  refine sp_in (by omega) (by omega) (by omega) (fun d0 d9 => ?_) (fun q => by rw [pit_neg (by omega)] at hq; exact hq σ Ag.rf C)
  rw [pit_pos (by omega)] at hq
  refine sp_refusal_ W C hr hk (Or.inl rfl) (fun q => by omega) (fun q hb => ⟨fun z => by omega, fun _ => ?_⟩) (fun _ _ hb b0 b2 g => ⟨fun z => by omega, fun _ => ?_⟩) (fun _ _ hb b0 b2 g1 g2 => ⟨fun _ => ?_, fun z => absurd rfl z⟩)
  · rw [pit_pos hb] at hq; exact hq σ Ag.rf C
  · rw [pit_neg hb, pit_neg (by omega)] at hq; exact hq σ Ag.rf C
  · rw [pit_neg hb, pit_pos (by omega)] at hq
    obtain ⟨B, D, R⟩ := mreel_facts W C r0 r6 b0 b2
    have h43 := B.h43
    refine sp_mdoes W C Fr.rf r0 r6 b0 (fun τ A1 L1 h82 => ?_)
    have R1 := R.fr A1 h43 (fun a j x y => by omega) (by omega) (fun j _ _ => by omega)
    refine R1.at B D.1 r0 r6 g1 (by omega) ⟨⟨by omega, by omega⟩, ?_⟩
    have A2 : Fr (fun a j => ¬ (a = 79 ∧ j = 50 * r + k)) τ (sI τ 79 (50 * r + k) d) := fr_sI (by omega) (fun a j x => x)
    have A3 : Fr (fun a j => HP8 r a j ∧ WK a j) σ (sI τ 79 (50 * r + k) d) := (A1.mono (fun a j x => by omega)).trans (A2.mono (fun a j x => by omega))
    refine hq _ (A1.1.trans A2.1) (C.turn W r0 r6 A3 ((A2.I (by omega)).trans R1.1) (fun j a c => ?_) (L1.fr A2 (by omega) (fun _ => by omega) (fun _ => by omega)) (C.2.2.2.2.2.2.put (r := r) (h := rH α r) (h82.fr A2 (fun _ => by omega)) (A3.mono (fun a j x => ⟨by omega, wk_ar (by omega)⟩)) (fun j a c => ?_)))
    · unfold st1
      by_cases e : j = k
      · rw [if_pos e, e, gI_self]
      · rw [if_neg e, gI_ne _ _ _ (by omega)]; exact R1.2.2 j a c
    · by_cases z : j = 50 * r + k
      · left; rw [z, gI_self]; omega
      · right; rw [gI_ne _ _ _ z]; exact A1.I (by omega)
theorem sp_mexch {σ : ASt} {α : AB} (W : WF α) (C : MAll σ α) {r k z y : Int} (r0 : 0 ≤ r) (r6 : r < 6) (b0 : 0 ≤ rB α r) (b2 : rB α r ≤ 2) (hz : (z = 1 ∧ y = -1) ∨ (z = -1 ∧ y = 1)) (k0 : 0 ≤ k) (k1 : k + 1 < rH α r) {Q : ASt → Prop} {Qn : ASt → Prop} (hF : ¬ canC (rS α r) (rH α r) (rD α r) k z → Qn σ) (hT : ∀ τ, canC (rS α r) (rH α r) (rD α r) k z → MO σ τ → MAll τ (turn α r (crr (rS α r) (rD α r) k z)) → Q τ) : EvZ K_X8_can [.ref 72, .int (iI r), .int (iI k), .int (iI y)] σ (fun s5 => EvV K_X8_does [.ref 72, .int (iI r)] s5 (fun s6 => EvV K_X8_goes [.ref 72, .int (iI r), .int (iI k), .int (iI y)] s6 Q)) Qn := by
  obtain ⟨B, D, R⟩ := mreel_facts W C r0 r6 b0 b2
  have h43 := B.h43
  refine sp_can R B D.1 r0 r6 b0 b2 hz k0 k1 (fun hc => ?_) hF
  refine sp_mdoes W C Fr.rf r0 r6 b0 (fun τ A1 L1 h82 => ?_)
  have R1 := R.fr A1 h43 (fun a j x y => by omega) (by omega) (fun j _ _ => by omega)
  refine sp_goes R1 B r0 r6 b0 b2 hz hc (fun υ A2 R2 => ?_)
  have A3 : Fr (fun a j => HP8 r a j ∧ WK a j) σ υ := (A1.mono (fun a j x => by omega)).trans (A2.mono (fun a j x => by omega))
  have G := crr_DOK D hc
  refine hT υ hc (A1.1.trans A2.1) (C.turn W r0 r6 A3 R2.1 R2.2.2 (L1.fr A2 (by omega) (fun _ => by omega) (fun _ => by omega)) (C.2.2.2.2.2.2.put (r := r) (h := rH α r) (h82.fr A2 (fun _ => by omega)) (A3.mono (fun a j x => ⟨by omega, wk_ar (by omega)⟩)) (fun j a c => ?_)))
  by_cases z : j < 50 * r + rH α r
  · left
    have e := R2.2.2 (j - 50 * r) (by omega) (by omega)
    rw [show 50 * r + (j - 50 * r) = j by omega] at e
    have := G.all (j - 50 * r)
    exact ⟨a, z, by omega, by omega⟩
  · right; rw [A2.I (by omega), A1.I (by omega)]
theorem M_borrow {σ : ASt} {α : AB} (W : WF α) (C : MAll σ α) {r k : Int} (hr : i32 r) (hk : i32 k) {Q : Int → ASt → Prop} (hq : ∀ τ, MO σ τ → MAll τ (oExch α r k (-1) k).2 → Q (oExch α r k (-1) k).1 τ) : EvI K_X8_borrow [.ref 72, .int (iI r), .int (iI k)] σ Q := by
  unfold oExch at hq
  refine eX8_borrow (sp_refusal_ W C hr hk (Or.inr rfl) (fun q => ⟨fun z => by omega, fun _ => ?_⟩) (fun q hb => ⟨fun z => by omega, fun _ => ?_⟩) (fun r0 r6 hb b0 b2 g => ⟨fun z => by omega, fun _ => ?_⟩) (fun r0 r6 hb b0 b2 g1 g2 => ⟨fun _ => ?_, fun z => absurd rfl z⟩))
  · rw [pit_neg q] at hq; exact hq σ Ag.rf C
  · rw [pit_pos q, pit_pos hb] at hq; exact hq σ Ag.rf C
  · rw [pit_pos (by omega), pit_neg hb, pit_neg g] at hq; exact hq σ Ag.rf C
  · rw [pit_pos (by omega), pit_neg hb, pit_pos ⟨g1, g2⟩] at hq
    refine sp_mexch W C r0 r6 b0 b2 (Or.inr ⟨rfl, rfl⟩) g1 (by omega) (fun hc => by rw [pit_neg hc] at hq; exact hq σ Ag.rf C) (fun τ hc A1 C1 => ?_)
    rw [pit_pos hc] at hq
    have B := (mreel_facts W C r0 r6 b0 b2).1
    have G := crr_DOK (mreel_facts W C r0 r6 b0 b2).2.1 hc
    obtain ⟨B1, D1, R1⟩ := mreel_facts (W.turn r0 r6 b0 G) C1 r0 r6 (by rw [turn_rB]; exact b0) (by rw [turn_rB]; exact b2)
    rw [turn_rD] at D1 R1
    rw [turn_rH] at D1 B1 R1
    exact R1.at B1 D1.1 r0 r6 g1 (by omega) (hq τ A1 C1)
theorem M_carry {σ : ASt} {α : AB} (W : WF α) (C : MAll σ α) {r k : Int} (hr : i32 r) (hk : i32 k) {Q : Int → ASt → Prop} (hq : ∀ τ, MO σ τ → MAll τ (oExch α r k 1 (k + 1)).2 → Q (oExch α r k 1 (k + 1)).1 τ) : EvI K_X8_carry [.ref 72, .int (iI r), .int (iI k)] σ Q := by
  unfold oExch at hq
  refine eX8_carry (sp_refusal_ W C hr hk (Or.inr rfl) (fun q => ⟨fun z => by omega, fun _ => ?_⟩) (fun q hb => ⟨fun z => by omega, fun _ => ?_⟩) (fun r0 r6 hb b0 b2 g => ⟨fun z => by omega, fun _ => ?_⟩) (fun r0 r6 hb b0 b2 g1 g2 => ⟨fun _ => ?_, fun z => absurd rfl z⟩))
  · rw [pit_neg q] at hq; exact hq σ Ag.rf C
  · rw [pit_pos q, pit_pos hb] at hq; exact hq σ Ag.rf C
  · rw [pit_pos (by omega), pit_neg hb, pit_neg g] at hq; exact hq σ Ag.rf C
  · rw [pit_pos (by omega), pit_neg hb, pit_pos ⟨g1, g2⟩] at hq
    refine sp_mexch W C r0 r6 b0 b2 (Or.inl ⟨rfl, rfl⟩) g1 (by omega) (fun hc => by rw [pit_neg hc] at hq; exact hq σ Ag.rf C) (fun τ hc A1 C1 => ?_)
    rw [pit_pos hc] at hq
    have G := crr_DOK (mreel_facts W C r0 r6 b0 b2).2.1 hc
    obtain ⟨B1, D1, R1⟩ := mreel_facts (W.turn r0 r6 b0 G) C1 r0 r6 (by rw [turn_rB]; exact b0) (by rw [turn_rB]; exact b2)
    rw [turn_rD] at D1 R1
    rw [turn_rH] at D1 B1 R1
    exact R1.at B1 D1.1 r0 r6 (by omega) (by omega) (hq τ A1 C1)
