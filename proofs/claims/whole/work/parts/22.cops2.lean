/-! the class's calls, second batch -/
theorem sp_times {x y t : Int} {σ : ASt} {Q : Int → ASt → Prop} (x0 : 0 ≤ x) (x1 : i64 x) (y0 : 0 ≤ y) (y1 : i64 y) (t0 : 0 ≤ t) (t1 : i64 t) (hok : x * y ≤ t → Q (x * y) σ) (hno : t < x * y → Q (-9223372036854775808) σ) : EvL K_X7_times [.long (lI x), .long (lI y), .long (lI t)] σ Q := by
  refine eX7_times x1 y1 t1 ⟨fun q => ?_, fun q => ⟨fun r => ⟨r, ?_⟩, fun r => ?_⟩⟩
  · rw [q, Int.zero_mul] at hok
    exact hok t0
  · have e : Int.tdiv t y = t / y := Int.tdiv_eq_ediv_of_nonneg t0
    have yp : 0 < y := by omega
    have b1 : t / y ≤ t := Int.ediv_le_self _ t0
    have b0 : 0 ≤ t / y := Int.ediv_nonneg t0 y0
    rw [e]
    refine ⟨by omega, fun u => ?_, fun u => ?_⟩
    · have h1 := (Int.le_ediv_iff_mul_le yp).mp u
      have h2 := Int.mul_nonneg x0 y0
      exact ⟨by omega, hok h1⟩
    · refine hno ?_
      rcases Int.lt_or_le t (x * y) with g | g
      · exact g
      · have := (Int.le_ediv_iff_mul_le yp).mpr g
        omega
  · rw [r, Int.mul_zero] at hok
    exact hok t0
theorem sp_reckon {x y w t : Int} {σ : ASt} {Q : Int → ASt → Prop} (x0 : 0 ≤ x) (x1 : x ≤ 4257000000000) (y0 : 0 ≤ y) (y1 : y ≤ 4257000000000) (w1 : 1 ≤ w) (w4 : w ≤ 4) (t0 : 0 ≤ t) (t1 : i64 t) (hq : ∀ e : Int, (0 ≤ e ∧ e ≤ t ↔ 0 ≤ rk x y w ∧ rk x y w ≤ t) → (0 ≤ e ∧ e ≤ t → e = rk x y w) → Q e σ) : EvL K_X7_reckon [.long (lI x), .long (lI y), .int (iI w), .long (lI t)] σ Q := by
  have q1 : Int.tdiv x y = x / y := Int.tdiv_eq_ediv_of_nonneg x0
  have q2 : Int.tmod x y = x % y := Int.tmod_eq_emod_of_nonneg x0
  have same : ∀ e : Int, e = rk x y w → Q e σ := fun e h => hq e (by rw [h]) (fun _ => h)
  refine eX7_reckon (by omega) (by omega) (by omega) ⟨fun a => ⟨fun b => ⟨fun c => ?_, fun c => ?_⟩, fun b => ?_⟩, fun a => ⟨by omega, ?_⟩⟩
  · have yp : 0 < y := by omega
    rw [q1, q2]
    refine ⟨fun d => ⟨c, ?_, ?_⟩, fun d => ⟨c, ?_, ?_⟩⟩
    · have g1 := Int.emod_nonneg x c
      have g2 := Int.emod_lt_of_pos x yp
      omega
    · refine same _ ?_
      unfold rk; rw [if_neg a, if_neg b, if_neg c, if_neg d]
    · have g1 : x / y ≤ x := Int.ediv_le_self _ x0
      have g2 : 0 ≤ x / y := Int.ediv_nonneg x0 y0
      omega
    · refine same _ ?_
      unfold rk; rw [if_neg a, if_neg b, if_neg c, if_pos d]
  · have e : rk x y w = -1 := by unfold rk; rw [if_neg a, if_neg b, if_pos c]
    refine hq _ ?_ ?_
    · rw [e]; omega
    · intro h; omega
  · have e : rk x y w = x * y := by unfold rk; rw [if_neg a, if_pos b]
    have h2 := Int.mul_nonneg x0 y0
    refine sp_times x0 (by omega) y0 (by omega) t0 t1 (fun g => ?_) (fun g => ?_)
    · exact same _ e.symm
    · refine hq _ ?_ ?_
      · rw [e]; omega
      · intro h; omega
  · refine same _ ?_
    unfold rk; rw [if_pos a]
theorem C_sum {σ : ASt} {α : AB} (W : WF α) (C : CAll σ α) {p q t w : Int} (hp : i32 p) (hq0 : i32 q) (ht : i32 t) (hw : i32 w) {Q : Int → ASt → Prop} (hq : ∀ τ, CO σ τ → CAll τ (oSum α p q t w).2 → Q (oSum α p q t w).1 τ) : EvI K_X7_sum [.ref 0, .int (iI p), .int (iI q), .int (iI t), .int (iI w)] σ Q := by
  have bad : ¬ (okR p ∧ okR q ∧ okR t ∧ 0 ≤ w ∧ w ≤ 4) → Q (-2) σ := fun z => by
    unfold oSum at hq
    rw [pit_neg z] at hq
    exact hq σ Ag.rf C
  refine eX7_sum hw (sp_reelAt hp (fun p0 p6 => ?_) (fun z => sp_reelAt hq0 (fun _ _ => bad (by omega)) (fun _ => bad (by omega))))
  refine sp_reelAt hq0 (fun q0 q6 => ?_) (fun z => bad (by omega))
  refine sp_reelAt ht (fun t0 t6 => ?_) (fun z => bad (by omega))
  refine sp_isWithin hw (by omega) (by omega) (fun w0 w4 => ?_) (fun z => bad (by omega))
  clear bad
  unfold oSum at hq
  rw [pit_pos (by omega)] at hq
  refine reel_split W C p0 p6 (fun hb => by rw [pit_pos (Or.inl hb)] at hq; exact hq σ Ag.rf C) (fun hb b0 b2 => ?_)
  refine reel_split W C q0 q6 (fun hb' => by rw [pit_pos (Or.inr hb')] at hq; exact hq σ Ag.rf C) (fun hb' b0' b2' => ?_)
  rw [pit_neg (by omega)] at hq
  obtain ⟨B, D, CC, DD⟩ := reel_facts W C p0 p6 b0 b2
  obtain ⟨B', D', CC', DD'⟩ := reel_facts W C q0 q6 b0' b2'
  have h43 := B.h43
  refine ⟨fun e => ?_, fun e => ?_⟩
  · have eb : rB α p = rB α q := by omega
    have eH : rH α q = rH α p := by unfold rH; show aH α (rB α q).toNat = aH α (rB α p).toNat; rw [eb]
    have eS : rS α q = rS α p := by unfold rS; show aS α (rB α q).toNat = aS α (rB α p).toNat; rw [eb]
    have eN : rN α q = rN α p := by unfold rN; show aN α (rB α q).toNat = aN α (rB α p).toNat; rw [eb]
    rw [pit_pos eb] at hq
    refine ⟨fun e1 => ?_, fun e1 => ?_⟩
    · rw [pit_neg e1] at hq
      have v1 := va_bound B D.1 (Nat.le_refl _)
      have v2 := va_bound B' D'.1 (Nat.le_refl _)
      have h1 := B.top
      have h2 := wo_pos B.s1 (rH α p)
      have et : rTop α p = wo (rS α p) (rH α p) - 1 := rfl
      refine sp_valueOf (sh_b (by omega)) (sh_d (by omega)) B CC DD D.1 ?_
      rw [eH, eS, eN] at B' CC'
      rw [eH] at D'
      have v2' : 0 ≤ rV α q ∧ rV α q ≤ 4257000000000 := v2
      refine sp_valueOf (sh_b (by omega)) (sh_d (by omega)) B CC DD' D'.1 ?_
      have ev : va (rS α p) (rD α q) (rH α p) = rV α q := by unfold rV; rw [eS, eH]
      rw [ev, CC.2.2.1]
      refine sp_reckon v1.1 v1.2 v2'.1 v2'.2 (by omega) w4 (by omega) (by omega) (fun x g1 g2 => ?_)
      rw [CC.2.2.1]
      refine ⟨fun u => ?_, fun u => ⟨by omega, fun u2 => ?_, fun u2 => ?_⟩⟩
      · rw [pit_neg (fun z => by have := g1.mpr z; omega)] at hq
        exact hq σ Ag.rf C
      · have g3 := g1.mp ⟨u, u2⟩
        have g4 : x = rk (rV α p) (rV α q) w := g2 ⟨u, u2⟩
        rw [← g4, pit_pos (by omega)] at hq
        rw [C.1.1 (rB α p).toNat (by omega), show (((rB α p).toNat : Nat) : Int) = rB α p by omega]
        refine C_write W C ht (by omega) (by omega) (fun τ A1 C1 => ?_)
        unfold oWrite at C1 ⊢
        have e3 : x ≤ wo (aS α (rB α p).toNat) (aH α (rB α p).toNat) - 1 := u2
        rw [pit_pos ⟨by omega, by omega, u⟩, pit_pos e3] at C1 ⊢
        exact hq τ A1 C1
      · rw [pit_neg (fun z => by have := g1.mpr z; omega)] at hq
        exact hq σ Ag.rf C
    · rw [pit_pos e1] at hq
      rw [eH] at D'
      have D2 : (∀ k : Int, 0 ≤ k → k < rH α p → rD α p k + rD α q k ≤ 99) → DOK (sd α p q) (rH α p) := fun g => by
        refine ⟨fun k k0 k1 => ?_, fun k z => ?_⟩
        · have g1 := g k k0 k1
          have g2 := D.1 k k0 k1
          have g3 := D'.1 k k0 k1
          unfold sd; omega
        · unfold sd; rw [D.2 k z, D'.2 k z]; rfl
      refine sp_addInto rfl (sh_d (by omega)) (sh_d (by omega)) (by omega) (by omega) D D' h43 DD DD' (fun τ g A1 D1 => ?_) (fun τ g A1 => ?_)
      · rw [pit_pos g] at hq
        have D3 := D2 g
        have C1 : CL τ (aL α) := C.2.2.1.ag A1 (by omega) (by omega) (by omega)
        refine sp_fillReel t0 t6 (b := (rB α p).toNat) (by omega) rfl (d := sd α p q) (fun k _ _ => D3.all k) D1 C1 W.L32 (fun υ A2 g2 D2 L2 => ?_)
        have A3 : Ag (fun c => c ≠ 6 ∧ c ≠ 42 + t.toNat ∧ c ≠ 42 + t.toNat + 12 ∧ DP c) σ υ := (A1.mono (fun c h => h.1)).trans (A2.mono (fun c h => h.2))
        exact hq υ (A3.mono (fun c h => by refine ⟨?_, ?_, ?_, ?_, ?_, ?_⟩ <;> omega)) (C.fill t0 t6 A3 ⟨fun q => by omega, fun _ => ⟨g2, D2⟩⟩ L2)
      · rw [pit_neg (fun z => by obtain ⟨k, k0, k1, k2⟩ := g; have := z k k0 k1; omega)] at hq
        exact hq τ (A1.mono (fun c h => by omega)) (C.ag A1 (by omega) (by omega) (by omega) (by omega) (by omega) (by omega) (by omega) (fun b x y => by omega))
  · rw [pit_neg (by omega)] at hq
    exact hq σ Ag.rf C
theorem C_like {σ : ASt} {α : AB} (W : WF α) (C : CAll σ α) {p q w : Int} (hp : i32 p) (hq0 : i32 q) (hw : i32 w) {Q : Int → ASt → Prop} (hq : Q (oLike α p q w) σ) : EvI K_X7_like [.ref 0, .int (iI p), .int (iI q), .int (iI w)] σ Q := by
  have bad : ¬ (okR p ∧ okR q ∧ 0 ≤ w ∧ w ≤ 1) → Q (-2) σ := fun z => by
    unfold oLike at hq
    rw [pit_neg z] at hq
    exact hq
  refine eX7_like hw (sp_reelAt hp (fun p0 p6 => ?_) (fun z => sp_reelAt hq0 (fun _ _ => bad (by omega)) (fun _ => bad (by omega))))
  refine sp_reelAt hq0 (fun q0 q6 => ?_) (fun z => bad (by omega))
  refine sp_isWithin hw (by omega) (by omega) (fun w0 w4 => ?_) (fun z => bad (by omega))
  clear bad
  unfold oLike at hq
  rw [pit_pos (by omega)] at hq
  refine reel_split W C p0 p6 (fun hb => by rw [pit_pos (Or.inl hb)] at hq; exact reel_split W C q0 q6 (fun _ => hq) (fun _ _ _ => hq)) (fun hb b0 b2 => ?_)
  refine reel_split W C q0 q6 (fun hb' => by rw [pit_pos (Or.inr hb')] at hq; exact hq) (fun hb' b0' b2' => ?_)
  rw [pit_neg (by omega)] at hq
  obtain ⟨B, D, CC, DD⟩ := reel_facts W C p0 p6 b0 b2
  obtain ⟨B', D', CC', DD'⟩ := reel_facts W C q0 q6 b0' b2'
  refine ⟨fun e => ?_, fun e => ?_⟩
  · rw [pit_neg e] at hq
    refine ⟨fun f => ?_, fun f => ?_⟩
    · rw [pit_neg (by omega)] at hq; exact hq
    · refine sp_countUnlike (sh_d (by omega)) (sh_d (by omega)) DD DD' (fun k _ _ => D.all k) (fun k _ _ => D'.all k) ⟨fun g => ?_, fun g => ?_⟩
      · rw [pit_neg (fun z => g z.2)] at hq; exact hq
      · rw [pit_pos ⟨by omega, g⟩] at hq; exact hq
  · rw [pit_pos e] at hq
    refine sp_valueOf (sh_b (by omega)) (sh_d (by omega)) B CC DD D.1 ?_
    refine sp_valueOf (sh_b (by omega)) (sh_d (by omega)) B' CC' DD' D'.1 ⟨fun g => ?_, fun g => ?_⟩
    · rw [pit_neg (show ¬ rV α p = rV α q from g)] at hq; exact hq
    · rw [pit_pos (show rV α p = rV α q from g)] at hq; exact hq
theorem CAll.work {P : Nat → Prop} {σ τ : ASt} {α : AB} (C : CAll σ α) (H : Ag P σ τ) (hp : ∀ b, b ≠ 6 → b ≠ 7 → b ≠ 8 → P b) : CAll τ α :=
  C.ag H (hp _ (by omega) (by omega) (by omega)) (hp _ (by omega) (by omega) (by omega)) (hp _ (by omega) (by omega) (by omega)) (hp _ (by omega) (by omega) (by omega)) (hp _ (by omega) (by omega) (by omega)) (hp _ (by omega) (by omega) (by omega)) (hp _ (by omega) (by omega) (by omega)) (fun b x y => hp _ (by omega) (by omega) (by omega))
theorem C_crossed {σ : ASt} {α : AB} (W : WF α) (C : CAll σ α) {b c v : Int} (hb : i32 b) (hc : i32 c) (hv : i64 v) {Q : Int → ASt → Prop} (hq : ∀ τ, CO σ τ → CAll τ α → Q (oCrossed α b c v) τ) : EvI K_X7_crossed [.ref 0, .int (iI b), .int (iI c), .long (lI v)] σ Q := by
  have bad : ¬ (okB b ∧ okB c ∧ 0 ≤ v) → Q (-2) σ := fun z => by
    unfold oCrossed at hq
    rw [pit_neg z] at hq
    exact hq σ Ag.rf C
  refine eX7_crossed hv (sp_baseAt hb (fun b0 b3 => ?_) (fun z => sp_baseAt hc (fun _ _ => bad (by omega)) (fun _ => bad (by omega))))
  refine sp_baseAt hc (fun c0 c3 => ⟨fun v0 => ?_, fun v0 => bad (by omega)⟩) (fun z => bad (by omega))
  clear bad
  obtain ⟨B, CC⟩ := base_facts W C b0 b3
  obtain ⟨B', CC'⟩ := base_facts W C c0 c3
  have h1 := B.top
  have h2 := wo_pos B.s1 (aH α b.toNat)
  have h1' := B'.top
  have h2' := wo_pos B'.s1 (aH α c.toNat)
  have h43 := B.h43
  have h43' := B'.h43
  unfold oCrossed at hq
  rw [pit_pos ⟨by omega, by omega, v0⟩] at hq
  rw [CC.2.2.1, CC'.2.2.1]
  refine ⟨by omega, fun u => ?_, fun u => ⟨by omega, fun u' => ?_, fun u' => ?_⟩⟩
  · rw [pit_pos (Or.inl u)] at hq; exact hq σ Ag.rf C
  · rw [pit_neg (by omega)] at hq
    have G := gd_DOK B v0 (by omega)
    have G' := gd_DOK B' v0 (by omega)
    refine sp_greedyInto (sh_b (by omega)) rfl B CC v0 hv (fun τ A1 D1 => ?_)
    have CC2 := CC'.ag A1 (by omega) (by omega) (by omega)
    refine sp_greedyInto (sh_b (by omega)) rfl B' CC2 v0 hv (fun υ A2 D2 => ?_)
    have D1' := D1.ag A2 (by omega)
    have A3 : Ag (fun c => c ≠ 6 ∧ c ≠ 7) σ υ := (A1.mono (fun c h => h.1)).trans (A2.mono (fun c h => h.2))
    have e1 : gI υ (24 + b.toNat) 4 = aH α b.toNat := (A3.I (by constructor <;> omega) 4).trans CC.2.1
    have e2 : gI υ (24 + c.toNat) 4 = aH α c.toNat := (A3.I (by constructor <;> omega) 4).trans CC'.2.1
    have lp : ∀ (m : Nat) (k : Int), 0 ≤ k → k + m = 43 → Wx K_X7_crossed (QI Q) 82 [(0, .ref 0), (5, .ref (24 + b.toNat)), (6, .ref (24 + c.toNat)), (7, .int (iI (k - ct (xe α b c v) k.toNat))), (8, .int (iI k))] [] υ := by
      intro m
      induction m with
      | zero =>
        intro k k0 hk
        have hh := ct_b (xe α b c v) k.toNat
        refine bX7_crossed_82 (sh_b (by omega)) (sh_b (by omega)) (by omega) (by omega) ⟨fun _ => ?_, fun z => by omega⟩
        have := hq υ (A3.mono (fun c h => by constructor <;> omega)) (C.work A3 (fun b x y _ => ⟨x, y⟩))
        rw [show k.toNat = 43 by omega, show k = 43 by omega]
        exact this
      | succ m ih =>
        intro k k0 hk
        have hh := ct_b (xe α b c v) k.toNat
        have nx := ih (k + 1) (by omega) (by omega)
        rw [ct_i k0] at nx
        have ek : xe α b c v k = if k < aH α b.toNat ∧ k < aH α c.toNat then gd (aS α b.toNat) (aH α b.toNat) v k - gd (aS α c.toNat) (aH α c.toNat) v k else 1 := rfl
        have other : xe α b c v k ≠ 0 → Wx K_X7_crossed (QI Q) 82 [(0, .ref 0), (5, .ref (24 + b.toNat)), (6, .ref (24 + c.toNat)), (7, .int (iI (k - ct (xe α b c v) k.toNat))), (8, .int (iI (k + 1)))] [] υ := fun z => by
          rw [if_neg z, show k + 1 - (ct (xe α b c v) k.toNat + 1) = k - ct (xe α b c v) k.toNat by omega] at nx
          exact nx
        refine bX7_crossed_82 (sh_b (by omega)) (sh_b (by omega)) (by omega) (by omega) ⟨fun z => by omega, fun _ => ?_⟩
        refine sp_hasPlace (sh_b (by omega)) (by omega) e1 h43 (fun _ k1 => ?_) (fun z => other (by rw [ek, if_neg (by omega)]; omega))
        refine sp_hasPlace (sh_b (by omega)) (by omega) e2 h43' (fun _ k2 => ?_) (fun z => other (by rw [ek, if_neg (by omega)]; omega))
        rw [D1' k k0 (by omega), D2 k k0 (by omega)]
        have g1 := G.all k
        have g2 := G'.all k
        rw [if_pos ⟨k1, k2⟩] at ek
        refine ⟨⟨k0, by omega⟩, by omega, by omega, fun z => other (by omega), fun z => ?_⟩
        rw [if_pos (by omega), show k + 1 - (ct (xe α b c v) k.toNat + 0) = k - ct (xe α b c v) k.toNat + 1 by omega] at nx
        exact nx
    exact lp 43 0 (by omega) (by omega)
  · rw [pit_pos (Or.inr u')] at hq; exact hq σ Ag.rf C
theorem pl_b {d : Int → Int} (hd : ∀ k : Int, 0 ≤ d k ∧ d k ≤ 99) : ∀ (k : Nat), ∀ x ∈ pl d k, 0 ≤ x ∧ x ≤ 127
  | 0, x, h => by
    have := hd 0
    simp only [pl, fig] at h
    split at h <;> simp at h <;> omega
  | k + 1, x, h => by
    have := hd ((k + 1 : Nat) : Int)
    simp only [pl, fig] at h
    rcases List.mem_append.mp h with q | q
    · by_cases c : 9 < d ((k + 1 : Nat) : Int)
      · rw [if_pos c] at q
        rcases List.mem_cons.mp q with z | z
        · omega
        · have := List.mem_singleton.mp z; omega
      · rw [if_neg c] at q; have := List.mem_singleton.mp q; omega
    · rcases List.mem_cons.mp q with z | z
      · omega
      · exact pl_b hd k x z
theorem C_print {σ : ASt} {α : AB} (W : WF α) (C : CAll σ α) {r k : Int} (hr : i32 r) (hk : i32 k) {Q : Int → ASt → Prop} (hq : ∀ τ, CO σ τ → CAll τ α → Q (oPrint α r k) τ) : EvI K_X7_print [.ref 0, .int (iI r), .int (iI k)] σ Q := by
  unfold oPrint at hq
  refine eX7_print hk (sp_reelAt hr (fun r0 r6 => ⟨fun k1 => ?_, fun k1 => by rw [pit_neg (by omega)] at hq; exact hq σ Ag.rf C⟩) (fun q => by rw [pit_neg (by omega)] at hq; exact hq σ Ag.rf C))
  rw [pit_pos (by omega)] at hq
  refine reel_split W C r0 r6 (fun hb => by rw [pit_pos hb] at hq; exact hq σ Ag.rf C) (fun hb b0 b2 => ?_)
  rw [pit_neg hb] at hq
  obtain ⟨B, D, CC, DD⟩ := reel_facts W C r0 r6 b0 b2
  refine sp_printInto rfl (sh_d (by omega)) DD (fun k _ _ => D.all k) (fun τ A1 h1 => ?_)
  have A2 : CO σ τ := A1.mono (fun c h => by omega)
  have C2 : CAll τ α := C.work A1 (fun b x y z => z)
  have fin := hq τ A2 C2
  have hl := pl_len (rD α r) (hg (rD α r) 43).toNat
  have hb := hg_b (rD α r) 43
  have el : (pr (rD α r)).length = (pl (rD α r) (hg (rD α r) 43).toNat).length := rfl
  refine ⟨fun z => ⟨fun u => ?_, fun u => ?_⟩, fun z => ?_⟩
  · rw [pit_neg z, pit_neg (by omega)] at fin; exact fin
  · rw [pit_neg z, pit_pos u] at fin
    have hlt : k.toNat < (pr (rD α r)).length := by omega
    have e1 := h1 k.toNat _ (List.getElem?_eq_getElem hlt)
    rw [show (0 : Int) + ((k.toNat : Nat) : Int) = k by omega] at e1
    have e2 : (pr (rD α r)).getD k.toNat 0 = (pr (rD α r))[k.toNat] := by simp [List.getD, List.getElem?_eq_getElem hlt]
    rw [e1, ← e2]
    have e3 := pl_b (d := rD α r) D.all (hg (rD α r) 43).toNat _ (List.getElem_mem hlt)
    exact ⟨⟨by omega, by omega⟩, by omega, fin⟩
  · rw [pit_pos z] at fin; exact fin
theorem CAll.tape {σ τ : ASt} {α : AB} (C : CAll σ α) {z : Int} {t : Int → Int} (H : Ag (fun c => c ≠ 9 ∧ c ≠ 10) σ τ) (h : CT τ z t) : CAll τ (sT α z t) := by
  obtain ⟨c1, c2, c3, c4, c5, c6, c7⟩ := C
  exact ⟨c1.ag H (fun b x y => by omega), c2.ag H (fun b x y => by omega), c3.ag H (by omega) (by omega) (by omega), h, c5.ag H (fun b x y => by omega), (H.I (by omega) 8).trans c6, c7.ag H (by omega)⟩
theorem WF.tape {α : AB} (W : WF α) {z : Int} {t : Int → Int} (z0 : 0 ≤ z) (z1 : z ≤ 80) (ht : ∀ i : Int, 0 ≤ i → i < z → 0 ≤ t i ∧ t i ≤ 127) : WF (sT α z t) := ⟨W.1, W.2.1, W.2.2.1, W.2.2.2.1, ⟨z0, z1, ht⟩, W.2.2.2.2.2⟩
theorem C_feed {σ : ASt} {α : AB} (W : WF α) (C : CAll σ α) {x : Int} (hx : i32 x) {Q : Int → ASt → Prop} (hq : ∀ τ, CO σ τ → CAll τ (oFeed α x).2 → Q (oFeed α x).1 τ) : EvI K_X7_feed [.ref 0, .int (iI x)] σ Q := by
  unfold oFeed at hq
  have wt := W.2.2.2.2.1
  refine eX7_feed (sp_isWithin hx (by omega) (by omega) (fun x0 x1 => ?_) (fun q => by rw [pit_neg (by omega)] at hq; exact hq σ Ag.rf C))
  rw [pit_pos ⟨x0, x1⟩] at hq
  refine sp_tapeAdd C.2.2.2.1 ⟨wt.1, wt.2.1⟩ (fun τ h A1 C1 => ?_) (fun h => by rw [pit_neg (by omega)] at hq; exact hq σ Ag.rf C)
  rw [pit_pos h] at hq
  rw [C1.1]
  exact ⟨by omega, hq τ (A1.mono (fun c h => by omega)) (C.tape A1 C1)⟩
theorem tD_DOK {l : List Int} {h : Nat} (hl : l.length ≤ h) (hv : ∀ v ∈ l, 0 ≤ v ∧ v ≤ 99) : DOK (tD l) h := by
  refine ⟨fun k k0 k1 => ?_, fun k z => ?_⟩
  · unfold tD
    rw [if_pos k0]
    by_cases q : k.toNat < l.length
    · have e : l.getD k.toNat 0 = l[k.toNat] := by simp [List.getD, List.getElem?_eq_getElem q]
      rw [e]; exact hv _ (List.getElem_mem q)
    · have e : l.getD k.toNat 0 = 0 := by simp [List.getD, List.getElem?_eq_none (Nat.le_of_not_lt q)]
      rw [e]; omega
  · unfold tD
    by_cases q : 0 ≤ k
    · rw [if_pos q]
      simp [List.getD, List.getElem?_eq_none (show l.length ≤ k.toNat by omega)]
    · rw [if_neg q]
/-- what a text tells: no more numbers than worths, all fit as digits -/
theorem ps_fact {α : AB} (W : WF α) {H : Nat} (h1 : (ps (aT α) (aTZ α) H 100 0 []).1 = -1) : RX (aT α) (ps (aT α) (aTZ α) H 100 0 []).2 (aTZ α) ∧ (ps (aT α) (aTZ α) H 100 0 []).2.length ≤ H ∧ DOK (tD (ps (aT α) (aTZ α) H 100 0 []).2) H := by
  have wt := W.2.2.2.2.1
  have := ps_ok (t := aT α) (z := aTZ α) (H := H) 100 0 [] (by omega) (by omega) (Or.inl ⟨rfl, rfl⟩) (by simp) (fun v hv => by cases hv) h1
  exact ⟨this.1, this.2.1, tD_DOK this.2.1 this.2.2⟩
theorem C_read {σ : ASt} {α : AB} (W : WF α) (C : CAll σ α) {r b : Int} (hr : i32 r) (hb : i32 b) {Q : Int → ASt → Prop} (hq : ∀ τ, CO σ τ → CAll τ (oRead α r b).2 → Q (oRead α r b).1 τ) : EvI K_X7_read [.ref 0, .int (iI r), .int (iI b)] σ Q := by
  have bad : ¬ (okR r ∧ okB b) → Q (-2) σ := fun z => by
    unfold oRead at hq
    rw [pit_neg z] at hq
    exact hq σ Ag.rf C
  refine eX7_read (sp_baseAt hb (fun b0 b3 => ?_) (fun z => sp_reelAt hr (fun _ _ => bad (by omega)) (fun _ => bad (by omega))))
  refine sp_reelAt hr (fun r0 r6 => ?_) (fun z => bad (by omega))
  clear bad
  obtain ⟨B, CC⟩ := base_facts W C b0 b3
  have h43 := B.h43
  have wt := W.2.2.2.2.1
  unfold oRead at hq
  rw [pit_pos ⟨by omega, by omega⟩] at hq
  have pb := ps_b (t := aT α) (z := aTZ α) (H := aH α b.toNat) 100 0 [] (by omega) wt.1
  rw [CC.2.1]
  refine sp_fault C.2.2.2.1 ⟨wt.1, wt.2.1⟩ wt.2.2 h43 ⟨fun u => ⟨by omega, ?_⟩, fun u => ?_⟩
  · rw [pit_neg u] at hq
    exact hq _ (ag_sI (fun c h => by omega)) (C.tape (ag_sI (fun c h => by omega)) ⟨gI_self _ _ _ _, fun i i0 i1 => by omega⟩)
  · rw [pit_pos u] at hq
    obtain ⟨f1, f2, f3⟩ := ps_fact W u
    refine sp_numbersInto rfl C.2.2.2.1 ⟨wt.1, wt.2.1⟩ f1 (by omega) (fun τ A1 D1 => ?_)
    have C1 : CL τ (aL α) := C.2.2.1.ag A1 (by omega) (by omega) (by omega)
    refine sp_fillReel r0 r6 (b := b.toNat) (by omega) rfl (fun k _ _ => f3.all k) D1 C1 W.L32 (fun υ A2 g2 D2 L2 => ?_)
    have A3 : Ag (fun c => c ≠ 6 ∧ c ≠ 42 + r.toNat ∧ c ≠ 42 + r.toNat + 12 ∧ DP c) σ υ := (A1.mono (fun c h => h.1)).trans (A2.mono (fun c h => h.2))
    have C2 : CAll υ (fill α r b (tD (ps (aT α) (aTZ α) (aH α b.toNat) 100 0 []).2)) := C.fill r0 r6 A3 ⟨fun q => by omega, fun _ => ⟨g2, D2⟩⟩ L2
    have A4 : CO σ υ := A3.mono (fun c h => by refine ⟨?_, ?_, ?_, ?_, ?_, ?_⟩ <;> omega)
    exact hq _ (A4.trans (ag_sI (fun c h => by omega))) (C2.tape (ag_sI (fun c h => by omega)) ⟨gI_self _ _ _ _, fun i i0 i1 => by omega⟩)
