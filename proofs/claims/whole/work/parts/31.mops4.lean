/-! the reference's calls, fourth batch: bases, images -/
theorem sp_step0 {b k n : Int} {s : Int → Int} {σ : ASt} (b0 : 0 ≤ b) (b2 : b ≤ 2) (n1 : 1 ≤ n) (n8 : n ≤ 8) (sb : ∀ k : Int, 0 ≤ k → 1 ≤ s k ∧ s k ≤ 9) (sp : ∀ k : Int, 0 ≤ k → s (k + n) = s k) (h74 : gI σ 74 b = n) (h73 : ∀ k : Int, 0 ≤ k → k < n → gI σ 73 (8 * b + k) = s k) (k0 : 0 ≤ k) (k1 : k < 50) {Q : Int → ASt → Prop} (hq : Q (s k) σ) : EvI K_X8_step [.ref 72, .int (iI b), .int (iI k)] σ Q := by
  have e : Int.tmod k n = k % n := Int.tmod_eq_emod_of_nonneg k0
  have g1 := Int.emod_nonneg k (show n ≠ 0 by omega)
  have g2 := Int.emod_lt_of_pos k (show 0 < n by omega)
  have e2 := per_mod n1 sp 50 k k0 (by omega)
  have sk := sb k k0
  refine eX8_step (by omega) ⟨⟨b0, by omega⟩, ?_⟩
  rw [h74, e, h73 _ g1 g2, e2]
  exact ⟨by omega, by omega, ⟨by omega, by omega⟩, by omega, hq⟩
abbrev FP8 (b : Int) : Nat → Int → Prop := fun a j => ¬ (a = 75 ∧ j = b) ∧ ¬ (a = 76 ∧ 50 * b ≤ j ∧ j < 50 * b + 50) ∧ ¬ (a = 77 ∧ j = b)
theorem sp_fills {b n : Int} {s : Int → Int} {σ : ASt} (b0 : 0 ≤ b) (b2 : b ≤ 2) (n1 : 1 ≤ n) (n8 : n ≤ 8) (sb : ∀ k : Int, 0 ≤ k → 1 ≤ s k ∧ s k ≤ 9) (sp : ∀ k : Int, 0 ≤ k → s (k + n) = s k) (h74 : gI σ 74 b = n) (h73 : ∀ k : Int, 0 ≤ k → k < n → gI σ 73 (8 * b + k) = s k) {Q : ASt → Prop} (hq : ∀ (h : Nat) (τ : ASt), BOK s n h → Fr (FP8 b) σ τ → MB τ b s n h → Q τ) : EvV K_X8_fills [.ref 72, .int (iI b)] σ Q := by
  have s1 : ∀ k : Int, 0 ≤ k → 1 ≤ s k := fun k hk => (sb k hk).1
  have lp : ∀ (m : Nat) (j : Nat) (τ : ASt), j + m = 43 → Fr (FP8 b) σ τ → (∀ i : Nat, i < j → wo s i ≤ 1000000000) → (∀ k : Int, 0 ≤ k → k < j → gL τ 76 (50 * b + k) = wo s k.toNat) → wo s j ≤ 10000000000 → Wx K_X8_fills (QV Q) 8 [(0, .ref 72), (1, .int (iI b)), (2, .long (lI (if j = 0 then 1 else wo s (j - 1)))), (4, .long (lI (wo s j))), (6, .int (iI (j : Int)))] [] τ := by
    intro m
    have fin : ∀ (j : Nat) (τ : ASt), 1000000000 < wo s j → Fr (FP8 b) σ τ → (∀ i : Nat, i < j → wo s i ≤ 1000000000) → (∀ k : Int, 0 ≤ k → k < j → gL τ 76 (50 * b + k) = wo s k.toNat) → Q (sL (sI τ 75 b j) 77 b (wo s j - 1)) := fun j τ hw A hle hL => by
      have j1 : 1 ≤ j := by
        rcases Nat.eq_zero_or_pos j with z | z
        · rw [z] at hw; simp only [wo] at hw; omega
        · exact z
      have A1 : Fr (FP8 b) τ (sL (sI τ 75 b j) 77 b (wo s j - 1)) := (fr_sI (by omega) (fun a i x => by omega)).trans (fr_sL (by omega) (fun a i x => by omega))
      have A2 := A.trans A1
      exact hq j _ ⟨n1, n8, sb, sp, j1, hle, hw⟩ A2 ⟨(A2.I (by omega)).trans h74, gI_self _ _ _ _, gL_self _ _ _ _, fun k a c => (A2.I (by omega)).trans (h73 k a c), fun k a c => by
        rw [gL_na _ _ _ _ (by omega), gL_sI]; exact hL k a c⟩
    induction m with
    | zero =>
      intro j τ hj hA hle hL hw
      have p1 := wo_pos s1 j
      have f1 := (wo_fb s1 43).1
      have f2 := fb_43
      have e : j = 43 := by omega
      exact bX8_fills_8 (by omega) (by omega) ⟨fun q => ⟨⟨b0, by omega⟩, fin j τ q hA hle hL⟩, fun q => by rw [e] at q; omega⟩
    | succ m ih =>
      intro j τ hj hA hle hL hw
      have p1 := wo_pos s1 j
      refine bX8_fills_8 (by omega) (by omega) ⟨fun q => ⟨⟨b0, by omega⟩, fin j τ q hA hle hL⟩, fun q => ⟨⟨by omega, by omega⟩, ?_⟩⟩
      have A1 : Fr (FP8 b) σ (sL τ 76 (50 * b + (j : Int)) (wo s j)) := hA.trans (fr_sL (by omega) (fun a i x => by omega))
      have h74' : gI (sL τ 76 (50 * b + (j : Int)) (wo s j)) 74 b = n := (A1.I (by omega)).trans h74
      have h73' : ∀ k : Int, 0 ≤ k → k < n → gI (sL τ 76 (50 * b + (j : Int)) (wo s j)) 73 (8 * b + k) = s k := fun k a c => (A1.I (by omega)).trans (h73 k a c)
      have sj := sb j (by omega)
      have e2 : s j * wo s j + (if j = 0 then 1 else wo s (j - 1)) = wo s (j + 1) := by
        by_cases z : j = 0
        · subst z
          rw [if_pos rfl]
          show s 0 * 1 + 1 = s 0 + 1
          omega
        · rw [if_neg z, wo_step j (by omega)]
      have e3 : wo s j = if j + 1 = 0 then 1 else wo s (j + 1 - 1) := by rw [if_neg (by omega), Nat.add_sub_cancel]
      have b1 : wo s (j + 1) ≤ 10000000000 := by
        rw [← e2]
        have := Int.mul_le_mul sj.2 q (by omega) (by omega)
        by_cases z : j = 0
        · rw [if_pos z]; omega
        · rw [if_neg z]
          have := hle (j - 1) (by omega)
          omega
      have key := ih (j + 1) _ (by omega) A1 (fun i hi => by
        by_cases z : i = j
        · rw [z]; exact q
        · exact hle i (by omega)) (fun k a c => by
        by_cases z : k = (j : Int)
        · rw [z, gL_self, Int.toNat_natCast]
        · rw [gL_ne _ _ _ (by omega)]; exact hL k a (by omega)) b1
      rw [← e3, show ((j + 1 : Nat) : Int) = (j : Int) + 1 by omega] at key
      refine ⟨fun z => ?_, fun z => ?_⟩
      · refine sp_step0 b0 b2 n1 n8 sb sp h74' h73' (by omega) (by omega) ?_
        rw [e2]; exact key
      · have j0 : j = 0 := by omega
        refine sp_step0 b0 b2 n1 n8 sb sp h74' h73' (by omega) (by omega) ?_
        subst j0
        exact key
  exact eX8_fills (lp 43 0 σ (by omega) Fr.rf (fun i hi => by omega) (fun k a c => by omega) (by simp [wo]))
/-! a base told anew, while reels still have it -/
def hh (α : AB) (i q : Int) : Nat := if rB α q = i then 0 else rH α q
def MAllh (i : Int) (σ : ASt) (α : AB) : Prop := MBs σ α ∧ (∀ r : Int, 0 ≤ r → r < 6 → MR σ r (rB α r) (rD α r) (hh α i r)) ∧ ML σ (aL α) (hh α i) ∧ MT σ (aTZ α) (aT α) ∧ MWs σ α ∧ MKp σ α ∧ MD σ
theorem MAllh.end {i : Int} {σ : ASt} {α : AB} (W : WFh i 6 α) (C : MAllh i σ α) : MAll σ α := by
  obtain ⟨c1, c2, c3, c4, c5, c6, c7⟩ := C
  have e : ∀ q : Int, 0 ≤ q → q < 6 → rH α q = hh α i q := fun q a c => by
    have g := (W.2.2.1 q.toNat (live_r (by omega))).2.2.1 (by omega)
    unfold hh
    rw [if_neg (show ¬ rB α q = i from g)]
  refine ⟨c1, fun r a c => by rw [e r a c]; exact c2 r a c, c3.congr (fun x hx => ?_), c4, c5, c6, c7⟩
  have := W.2.2.2.1 x hx
  exact e x.1 this.1 this.2.1
theorem hh43 {i : Int} {r : Nat} {α : AB} (W : WFh i r α) {q : Int} (q0 : 0 ≤ q) (q6 : q < 6) (b0 : 0 ≤ rB α q) : hh α i q ≤ 43 := by
  unfold hh
  have w := W.2.2.1 q.toNat (live_r (by omega))
  have e : rB α q = aB α q.toNat := rfl
  split
  · omega
  · exact (W.2.1 (aB α q.toNat).toNat (live_b (by omega))).h43
theorem sp_mclear {i : Int} (i0 : 0 ≤ i) {r : Nat} (r6 : r < 6) {σ : ASt} {α : AB} (W : WFh i r α) (C : MAllh i σ α) (hB : aB α r = i) {Q : ASt → Prop} (hq : ∀ τ, MO σ τ → MAllh i τ (fill α r (-1) (rD α r)) → Q τ) : EvV K_X8_forgets [.ref 72, .int (iI (r : Int))] (sI σ 78 r (-1)) Q := by
  obtain ⟨c1, c2, c3, c4, c5, c6, c7⟩ := C
  have A1 : Fr (fun a j => ¬ (a = 78 ∧ j = r)) σ (sI σ 78 r (-1)) := fr_sI (by omega) (fun a j x => x)
  refine sp_mforgets (c3.fr A1 (by omega) (fun _ => by omega) (fun _ => by omega)) (fun x hx => ?_) (fun j a c => by rw [A1.I (by omega)]; exact (c7 j a).2.1 c) (by omega) (fun τ A2 L2 h82 => hq τ (A1.1.trans A2.1) ?_)
  · have w := W.2.2.2.1 x hx
    exact ⟨by omega, hh43 W w.1 w.2.1 w.2.2.1⟩
  have A3 : Fr (fun a j => ¬ (a = 78 ∧ j = r) ∧ DP8 a j) σ τ := (A1.mono (fun a j x => x.1)).trans (A2.mono (fun a j x => x.2))
  have eB : ∀ q : Int, 0 ≤ q → q ≠ r → rB (fill α r (-1) (rD α r)) q = rB α q := fun q a c => up1_ne _ _ (by omega)
  have eD : ∀ q : Int, 0 ≤ q → q ≠ r → rD (fill α r (-1) (rD α r)) q = rD α q := fun q a c => up1_ne _ _ (by omega)
  have eh : ∀ q : Int, 0 ≤ q → q ≠ r → hh (fill α r (-1) (rD α r)) i q = hh α i q := fun q a c => by
    unfold hh
    rw [eB q a c]
    have e2 : rH (fill α r (-1) (rD α r)) q = rH α q := (rH_sR q).trans (if_neg (by omega))
    rw [e2]
  refine ⟨fun p a c => (c1 p a c).fr A3 (fun a j x y => by omega), fun q a c => ?_, L2.congr (fun x hx => ?_), c4.fr A3 (by omega) (fun _ => by omega), fun w a c => (c5 w a c).fr A3 (by omega) (by omega) (fun _ _ _ => by omega), ?_, fun j a => ⟨fun c => ?_, fun c => h82 j a c, fun c => ?_⟩⟩
  · by_cases e : q = r
    · have e3 : rB (fill α r (-1) (rD α r)) q = -1 := by rw [e]; exact up1_self _ _ _
      rw [e3]
      exact ⟨by rw [e, A2.I (by omega), gI_self], fun z => by omega⟩
    · rw [eB q a e, eD q a e, eh q a e]
      exact (c2 q a c).fr A3 (fun z => hh43 W a c z) (by omega) (fun _ _ _ => by omega)
  · have h := fgt_mem hx
    have w := W.2.2.2.1 x h.1
    exact eh x.1 w.1 (by have := h.2; omega)
  · exact (c6.fr A3 (by omega) (fun a j _ _ => by omega)).fill (by omega)
  · rw [A3.I (by omega)]; exact (c7 j a).1 c
  · rw [A3.I (by omega)]; exact (c7 j a).2.2 c
abbrev BP8 (b : Int) : Nat → Int → Prop := fun a j => FP8 b a j ∧ ¬ (a = 74 ∧ j = b) ∧ ¬ (a = 73 ∧ 8 * b ≤ j ∧ j < 8 * b + 8)
theorem MAllh.start {σ τ : ASt} {α : AB} (W : WF α) (C : MAll σ α) {i n : Int} {s : Int → Int} {h : Nat} (i0 : 0 ≤ i) (i3 : i < 3) (B : BOK s n h) (H : Fr (BP8 i) σ τ) (M : MB τ i s n h) : MAllh i τ (sB α i.toNat s n) := by
  obtain ⟨c1, c2, c3, c4, c5, c6, c7⟩ := C
  have hz : ∀ q : Int, 0 ≤ rB α q → hh (sB α i.toNat s n) i q = if rB α q = i then 0 else rH α q := fun q z => by
    unfold hh
    show (if rB α q = i then 0 else up1 (aH α) i.toNat (hOf s n) (rB α q).toNat) = _
    by_cases e : rB α q = i
    · rw [if_pos e, if_pos e]
    · rw [if_neg e, if_neg e, up1_ne _ _ (by omega)]; rfl
  refine ⟨fun p a c => ?_, fun r a c => ?_, ?_, c4.fr H ⟨by omega, by omega, by omega⟩ (fun _ => ⟨by omega, by omega, by omega⟩), fun w a c => (c5 w a c).fr H ⟨by omega, by omega, by omega⟩ ⟨by omega, by omega, by omega⟩ (fun _ _ _ => ⟨by omega, by omega, by omega⟩), ?_, c7.fr H (fun _ => ⟨by omega, by omega, by omega⟩) (fun _ => ⟨by omega, by omega, by omega⟩) (fun _ => ⟨by omega, by omega, by omega⟩)⟩
  · show MB τ p (up1 (aS α) i.toNat s p.toNat) (up1 (aN α) i.toNat n p.toNat) (up1 (aH α) i.toNat (hOf s n) p.toNat)
    by_cases e : p = i
    · rw [e, up1_self, up1_self, up1_self, hOf_eq B]; exact M
    · have b := mbase_facts W ⟨c1, c2, c3, c4, c5, c6, c7⟩ a c
      have h43 := b.1.h43
      have n8 := b.1.2.1
      rw [up1_ne _ _ (by omega), up1_ne _ _ (by omega), up1_ne _ _ (by omega)]
      exact ⟨(H.I ⟨by omega, by omega, by omega⟩).trans b.2.1, (H.I ⟨by omega, by omega, by omega⟩).trans b.2.2.1, (H.L ⟨by omega, by omega, by omega⟩).trans b.2.2.2.1, fun k x y => (H.I ⟨by omega, by omega, by omega⟩).trans (b.2.2.2.2.1 k x y), fun k x y => (H.L ⟨by omega, by omega, by omega⟩).trans (b.2.2.2.2.2 k x y)⟩
  · have m := c2 r a c
    refine ⟨(H.I ⟨by omega, by omega, by omega⟩).trans m.1, fun z k k0 k1 => ?_⟩
    have z' : 0 ≤ rB α r := z
    rw [hz r z'] at k1
    by_cases e : rB α r = i
    · rw [if_pos e] at k1; omega
    · rw [if_neg e] at k1
      exact (H.I ⟨by omega, by omega, by omega⟩).trans (m.2 z' k k0 k1)
  · have c3' := c3.fr H ⟨by omega, by omega, by omega⟩ (fun _ => ⟨by omega, by omega, by omega⟩) (fun _ => ⟨by omega, by omega, by omega⟩)
    refine ⟨c3'.1, c3'.2.1, fun j x hx => ⟨(c3'.2.2 j x hx).1, fun k k0 k1 => ?_⟩⟩
    have w := W.2.2.2.1 x (List.mem_of_getElem? hx)
    rw [hz x.1 w.2.2.1] at k1
    by_cases e : rB α x.1 = i
    · rw [if_pos e] at k1; omega
    · rw [if_neg e] at k1
      exact (c3'.2.2 j x hx).2 k k0 k1
  · have c6' := c6.fr H ⟨by omega, by omega, by omega⟩ (fun a j _ _ => ⟨by omega, by omega, by omega⟩)
    refine ⟨c6'.1, fun q => ⟨fun p a c => ?_, fun r a c => ?_⟩⟩
    · show gI τ 98 p = up1 (aN α) i.toNat n (3 + p.toNat) ∧ ∀ k : Int, 0 ≤ k → k < up1 (aN α) i.toNat n (3 + p.toNat) → gI τ 97 (8 * p + k) = up1 (aS α) i.toNat s (3 + p.toNat) k
      rw [up1_ne _ _ (by omega), up1_ne _ _ (by omega)]
      exact (c6'.2 q).1 p a c
    · show gI τ 99 r = aB α (6 + r.toNat) ∧ (0 ≤ aB α (6 + r.toNat) → ∀ k : Int, 0 ≤ k → k < up1 (aH α) i.toNat (hOf s n) (3 + (aB α (6 + r.toNat)).toNat) → gI τ 100 (50 * r + k) = aD α (6 + r.toNat) k)
      rw [up1_ne _ _ (by omega)]
      exact (c6'.2 q).2 r a c
theorem M_base {σ : ASt} {α : AB} (W : WF α) (C : MAll σ α) {i n s : Int} (hi : i32 i) (hn : i32 n) (hs : i32 s) {Q : Int → ASt → Prop} (hq : ∀ τ, MO σ τ → MAll τ (oBase α i n s).2 → Q (oBase α i n s).1 τ) : EvI K_X8_base [.ref 72, .int (iI i), .int (iI n), .int (iI s)] σ Q := by
  have bad : ¬ (okB i ∧ rowP n s) → Q (-2) σ := fun z => by
    unfold oBase at hq
    rw [pit_neg z] at hq
    exact hq σ Ag.rf C
  refine eX8_base hn hs (sp_mBase hi (fun i0 i3 => sp_in (by omega) (by omega) (by omega) (fun n1 n8 => ⟨fun s0 => ?_, fun q => bad (fun x => by have := x.2.2.2.1; omega)⟩) (fun q => bad (fun x => by have := x.2.1; have := x.2.2.1; omega))) (fun q => bad (by omega)))
  -- the reels
  have lp3 : rowP n s → ∀ (h : Nat) (τ : ASt), BOK (stf n s) n h → MB τ i (stf n s) n h → MO σ τ → MAllh i τ (sB α i.toNat (stf n s) n) → Wx K_X8_base (QI Q) 128 [(0, .ref 72), (1, .int (iI i)), (5, .int (iI 0))] [] τ := by
    intro R h τ B M A1 C1
    unfold oBase at hq
    rw [pit_pos ⟨by omega, R⟩] at hq
    have W1 := W.retell i0 (by omega) B
    have h43 := B.h43
    have lp : ∀ (m : Nat) (r : Nat) (υ : ASt), r + m = 6 → MO τ υ → MAllh i υ (clr (sB α i.toNat (stf n s) n) i r) → (MBs υ (sB α i.toNat (stf n s) n)) → Wx K_X8_base (QI Q) 128 [(0, .ref 72), (1, .int (iI i)), (5, .int (iI (r : Int)))] [] υ := by
      intro m
      induction m with
      | zero =>
        intro r υ hr A2 C2 MB2
        have e75 : gI υ 75 i = h := by
          have := (MB2 i i0 i3).2.1
          rw [this]
          show ((up1 (aH α) i.toNat (hOf (stf n s) n) i.toNat : Nat) : Int) = h
          rw [up1_self, hOf_eq B]
        rw [hOf_eq B] at hq
        have e6 : r = 6 := by omega
        subst e6
        refine bX8_base_128 (by omega) (by omega) ⟨fun _ => ⟨⟨i0, i3⟩, ?_⟩, fun q => by omega⟩
        rw [e75]
        exact ⟨by omega, hq υ (A1.trans A2) (C2.end (W1.clr i0 6 (by omega)))⟩
      | succ m ih =>
        intro r υ hr A2 C2 MB2
        have Wr := W1.clr i0 r (by omega)
        have w := Wr.2.2.1 r (live_r (by omega))
        have e78 : gI υ 78 (r : Int) = aB (clr (sB α i.toNat (stf n s) n) i r) r := (C2.2.1 r (by omega) (by omega)).1
        refine bX8_base_128 (by omega) (by omega) ⟨fun q => by omega, fun _ => ⟨⟨by omega, by omega⟩, ?_⟩⟩
        rw [e78, show (r : Int) + 1 = ((r + 1 : Nat) : Int) by omega]
        refine ⟨by omega, fun q => ?_, fun q => ?_⟩
        · refine ih (r + 1) υ (by omega) A2 ?_ MB2
          show MAllh i υ (pit _ _ _)
          rw [pit_neg q]; exact C2
        · refine sp_mclear i0 (by omega) Wr C2 q (fun ω A3 C3 => ih (r + 1) ω (by omega) (A2.trans A3) ?_ ?_)
          · show MAllh i ω (pit _ _ _)
            rw [pit_pos q]; exact C3
          · have eq : ∀ r, aS (clr (sB α i.toNat (stf n s) n) i r) = aS (sB α i.toNat (stf n s) n) ∧ aN (clr (sB α i.toNat (stf n s) n) i r) = aN (sB α i.toNat (stf n s) n) ∧ aH (clr (sB α i.toNat (stf n s) n) i r) = aH (sB α i.toNat (stf n s) n) := by
              intro r
              induction r with
              | zero => exact ⟨rfl, rfl, rfl⟩
              | succ r ih =>
                show aS (pit _ _ _) = _ ∧ aN (pit _ _ _) = _ ∧ aH (pit _ _ _) = _
                by_cases z : aB (clr (sB α i.toNat (stf n s) n) i r) r = i
                · rw [pit_pos z]; exact ih
                · rw [pit_neg z]; exact ih
            intro p a c
            have := C3.1 p a c
            obtain ⟨q1, q2, q3⟩ := eq r
            have g1 : aS (fill (clr (sB α i.toNat (stf n s) n) i r) r (-1) (rD (clr (sB α i.toNat (stf n s) n) i r) r)) = aS (sB α i.toNat (stf n s) n) := q1
            have g2 : aN (fill (clr (sB α i.toNat (stf n s) n) i r) r (-1) (rD (clr (sB α i.toNat (stf n s) n) i r) r)) = aN (sB α i.toNat (stf n s) n) := q2
            have g3 : aH (fill (clr (sB α i.toNat (stf n s) n) i r) r (-1) (rD (clr (sB α i.toNat (stf n s) n) i r) r)) = aH (sB α i.toNat (stf n s) n) := q3
            rw [g1, g2, g3] at this
            exact this
    exact lp 6 0 τ (by omega) Ag.rf C1 C1.1
  -- the steps
  have lp2 : rowP n s → ∀ (m : Nat) (j : Nat) (τ : ASt), (j : Int) + m = n → Fr (BP8 i) σ τ → gI τ 74 i = n → (∀ k : Int, n - j ≤ k → k < n → gI τ 73 (8 * i + k) = stf n s k) → Wx K_X8_base (QI Q) 85 [(0, .ref 72), (1, .int (iI i)), (4, .int (iI (lf s j))), (5, .int (iI (n - 1 - j)))] [] τ := by
    intro R m
    induction m with
    | zero =>
      intro j τ hj A h74 h73
      have b1 := lf_nn s0 j
      have b2 := lf_le s0 j
      refine bX8_base_85 (by omega) (by omega) ⟨fun _ => sp_fills i0 (by omega) n1 n8 (fun k a => stf_b R a) (fun k a => stf_per k) h74 (fun k a c => h73 k (by omega) c) (fun h υ B A2 M2 => ?_), fun z => by omega⟩
      have A3 : Fr (BP8 i) σ υ := A.trans (A2.mono (fun a j x => x.1))
      exact lp3 R h υ B M2 A3.1 (MAllh.start W C i0 i3 B A3 M2)
    | succ m ih =>
      intro j τ hj A h74 h73
      have b1 := lf_nn s0 j
      have b2 := lf_le s0 j
      have e1 : Int.tmod (lf s j) 10 = lf s j % 10 := Int.tmod_eq_emod_of_nonneg b1
      have e2 : Int.tdiv (lf s j) 10 = lf s j / 10 := Int.tdiv_eq_ediv_of_nonneg b1
      refine bX8_base_85 (by omega) (by omega) ⟨fun z => by omega, fun _ => ⟨⟨by omega, by omega⟩, ?_⟩⟩
      rw [e1, e2, show n - 1 - (j : Int) + (-1) = n - 1 - ((j + 1 : Nat) : Int) by omega]
      refine ih (j + 1) _ (by omega) (A.trans (fr_sI (by omega) (fun a j x => by omega))) (by rw [gI_na _ _ _ _ (by omega)]; exact h74) (fun k a c => ?_)
      by_cases z : k = n - 1 - j
      · rw [z, gI_self]
        unfold stf
        rw [show (n - 1 - (j : Int)) % n = n - 1 - j from Int.emod_eq_of_lt (by omega) (by omega), show (n - 1 - (n - 1 - (j : Int))).toNat = j by omega]
      · rw [gI_ne _ _ _ (by omega)]; exact h73 k (by omega) c
  -- the figures
  have lp1 : ∀ (m : Nat) (j : Nat), (j : Int) + m = n → (∀ i : Nat, i < j → lf s i % 10 ≠ 0) → Wx K_X8_base (QI Q) 32 [(0, .ref 72), (1, .int (iI i)), (2, .int (iI n)), (3, .int (iI s)), (4, .int (iI (lf s j))), (5, .int (iI (j : Int)))] [] σ := by
    intro m
    induction m with
    | zero =>
      intro j hj hl
      have b1 := lf_nn s0 j
      have b2 := lf_le s0 j
      have A1 : Fr (BP8 i) σ (sI σ 74 i n) := fr_sI (by omega) (fun a j x => by omega)
      refine bX8_base_32 hn (by omega) (by omega) ⟨fun _ => ⟨fun z => ⟨⟨i0, i3⟩, ?_⟩, fun z => bad (fun x => ?_)⟩, fun z => by omega⟩
      · have R : rowP n s := ⟨n1, n8, s0, fun k hk => hl k (by omega), by rw [show n.toNat = j by omega]; omega⟩
        have := lp2 R n.toNat 0 (sI σ 74 i n) (by omega) A1 (gI_self _ _ _ _) (fun k a c => by omega)
        rw [show n - 1 - ((0 : Nat) : Int) = n - 1 by omega] at this
        exact this
      · have := x.2.2.2.2.2
        rw [show n.toNat = j by omega] at this
        omega
    | succ m ih =>
      intro j hj hl
      have b1 := lf_nn s0 j
      have b2 := lf_le s0 j
      have e1 : Int.tmod (lf s j) 10 = lf s j % 10 := Int.tmod_eq_emod_of_nonneg b1
      have e2 : Int.tdiv (lf s j) 10 = lf s j / 10 := Int.tdiv_eq_ediv_of_nonneg b1
      refine bX8_base_32 hn (by omega) (by omega) ⟨fun z => by omega, fun _ => ?_⟩
      rw [e1, e2]
      refine ⟨by omega, fun q => ?_, fun q => bad (fun x => x.2.2.2.2.1 j (by omega) q)⟩
      have := ih (j + 1) (by omega) (fun i hi => by
        by_cases e : i = j
        · rw [e]; exact q
        · exact hl i (by omega))
      rw [show ((j + 1 : Nat) : Int) = (j : Int) + 1 by omega] at this
      exact this
  exact lp1 n.toNat 0 (by omega) (fun i hi => by omega)
/-! images -/
theorem M_image {σ : ASt} {α : AB} (W : WF α) (C : MAll σ α) {Q : Int → ASt → Prop} (hq : ∀ τ, MO σ τ → MAll τ (oImage α).2 → Q (oImage α).1 τ) : EvI K_X8_image [.ref 72] σ Q := by
  have C0 := C
  obtain ⟨c1, c2, c3, c4, c5, c6, c7⟩ := C
  have lp4 : ∀ (m : Nat) (k : Int) (τ : ASt), 0 ≤ k → k + m = 300 → Fr (fun a j => a < 97) σ τ → (∀ j : Int, 0 ≤ j → j < 24 → gI τ 97 j = gI σ 73 j) → (∀ j : Int, 0 ≤ j → j < 3 → gI τ 98 j = gI σ 74 j) → (∀ j : Int, 0 ≤ j → j < 6 → gI τ 99 j = gI σ 78 j) → (∀ j : Int, 0 ≤ j → j < k → gI τ 100 j = gI σ 79 j) → (∀ j : Int, k ≤ j → gI τ 100 j = gI σ 100 j) → Wx K_X8_image (QI Q) 79 [(0, .ref 72), (1, .int (iI k))] [] τ := by
    intro m
    induction m with
    | zero =>
      intro k τ k0 hk A h1 h2 h3 h4 h5
      have A2 : Fr (fun a j => a < 97 ∧ ¬ (a = 72 ∧ j = 33)) σ (sI τ 72 33 1) := (A.mono (fun a j x => x.1)).trans (fr_sI (by omega) (fun a j x => x.2))
      have A1 : Fr (fun a j => ¬ (a = 72 ∧ j = 33)) τ (sI τ 72 33 1) := fr_sI (by omega) (fun a j x => x)
      have CC : MAll (sI τ 72 33 1) (sImg α) := by
        refine ⟨fun i a c => ?_, fun r a c => ?_, ?_, c4.fr A2 (by omega) (fun _ => by omega), fun w a c => (c5 w a c).fr A2 (by omega) (by omega) (fun _ _ _ => by omega), ⟨gI_self _ _ _ _, fun _ => ⟨fun i a c => ?_, fun r a c => ?_⟩⟩, fun j a => ⟨fun c => ?_, fun c => ?_, fun c => ?_⟩⟩
        · show MB _ i (hi 3 (aS α) i.toNat) (hi 3 (aN α) i.toNat) (hi 3 (aH α) i.toNat)
          unfold hi
          rw [if_pos (by omega), if_pos (by omega), if_pos (by omega)]
          exact (c1 i a c).fr A2 (fun a j x y => by omega)
        · have e1 : rB (sImg α) r = rB α r := if_pos (by omega)
          have e2 : rD (sImg α) r = rD α r := if_pos (by omega)
          rw [e1, e2]
          refine ⟨(A2.I (by omega)).trans (c2 r a c).1, fun z k k0 k1 => (A2.I (by omega)).trans ((c2 r a c).2 z k k0 ?_)⟩
          have w := W.2.2.1 r.toNat (live_r (by omega))
          have e0 : rB α r = aB α r.toNat := rfl
          have e3 : rH (sImg α) r = rH α r := by
            show hi 3 (aH α) (rB (sImg α) r).toNat = aH α (rB α r).toNat
            rw [e1]
            exact if_pos (by omega)
          rw [e3] at k1; exact k1
        · refine (c3.fr A2 (by omega) (fun _ => by omega) (fun _ => by omega)).congr (fun x hx => ?_)
          have w := W.2.2.2.1 x hx
          have w2 := W.2.2.1 x.1.toNat (live_r (by omega))
          have e1 : rB (sImg α) x.1 = rB α x.1 := if_pos (by omega)
          show hi 3 (aH α) (rB (sImg α) x.1).toNat = aH α (rB α x.1).toNat
          rw [e1]
          have e0 : rB α x.1 = aB α x.1.toNat := rfl
          exact if_pos (by omega)
        · have e1 : aN (sImg α) (3 + i.toNat) = aN α i.toNat := by show hi 3 (aN α) (3 + i.toNat) = _; unfold hi; rw [if_neg (by omega), Nat.add_sub_cancel_left]
          have e2 : aS (sImg α) (3 + i.toNat) = aS α i.toNat := by show hi 3 (aS α) (3 + i.toNat) = _; unfold hi; rw [if_neg (by omega), Nat.add_sub_cancel_left]
          have n8 := (mbase_facts W C0 a c).1.2.1
          rw [e1, e2]
          refine ⟨?_, fun k k0 k1 => ?_⟩
          · rw [A1.I (by omega), h2 i a c]; exact (c1 i a c).1
          · rw [A1.I (by omega), h1 _ (by omega) (by omega)]; exact (c1 i a c).2.2.2.1 k k0 k1
        · have e1 : aB (sImg α) (6 + r.toNat) = rB α r := by show hi 6 (aB α) (6 + r.toNat) = _; unfold hi; rw [if_neg (by omega), Nat.add_sub_cancel_left]; rfl
          have e2 : aD (sImg α) (6 + r.toNat) = rD α r := by show hi 6 (aD α) (6 + r.toNat) = _; unfold hi; rw [if_neg (by omega), Nat.add_sub_cancel_left]; rfl
          rw [e1, e2]
          refine ⟨?_, fun z k k0 k1 => ?_⟩
          · rw [A1.I (by omega), h3 r a c]; exact (c2 r a c).1
          · have e3 : aH (sImg α) (3 + (rB α r).toNat) = rH α r := by show hi 3 (aH α) (3 + (rB α r).toNat) = _; unfold hi; rw [if_neg (by omega), Nat.add_sub_cancel_left]; rfl
            rw [e3] at k1
            have h43 := rH43 W a c z
            rw [A1.I (by omega), h4 _ (by omega) (by omega)]; exact (c2 r a c).2 z k k0 k1
        · rw [A2.I (by omega)]; exact (c7 j a).1 c
        · rw [A2.I (by omega)]; exact (c7 j a).2.1 c
        · rw [A1.I (by omega), h4 j a (by omega)]; exact (c7 j a).1 c
      refine bX8_image_79 (by omega) ⟨fun _ => sp_full W.img CC.2.1 (hq _ A2.1 CC), fun z => by omega⟩
    | succ m ih =>
      intro k τ k0 hk A h1 h2 h3 h4 h5
      have A1 : Fr (fun a j => ¬ (a = 100 ∧ j = k)) τ (sI τ 100 k (gI τ 79 k)) := fr_sI (by omega) (fun a j x => x)
      refine bX8_image_79 (by omega) ⟨fun z => by omega, fun _ => ⟨⟨k0, by omega⟩, ih (k + 1) _ (by omega) (by omega) (A.trans (A1.mono (fun a j x => by omega))) (fun j a c => by rw [A1.I (by omega)]; exact h1 j a c) (fun j a c => by rw [A1.I (by omega)]; exact h2 j a c) (fun j a c => by rw [A1.I (by omega)]; exact h3 j a c) (fun j a c => ?_) (fun j a => by rw [A1.I (by omega)]; exact h5 j (by omega))⟩⟩
      by_cases z : j = k
      · rw [z, gI_self]; exact A.I (by omega)
      · rw [gI_ne _ _ _ z]; exact h4 j a (by omega)
  have lp3 : ∀ (m : Nat) (k : Int) (τ : ASt), 0 ≤ k → k + m = 6 → Fr (fun a j => a < 97 ∨ a = 100) σ τ → (∀ j : Int, 0 ≤ j → j < 24 → gI τ 97 j = gI σ 73 j) → (∀ j : Int, 0 ≤ j → j < 3 → gI τ 98 j = gI σ 74 j) → (∀ j : Int, 0 ≤ j → j < k → gI τ 99 j = gI σ 78 j) → Wx K_X8_image (QI Q) 53 [(0, .ref 72), (1, .int (iI k))] [] τ := by
    intro m
    induction m with
    | zero =>
      intro k τ k0 hk A h1 h2 h3
      exact bX8_image_53 (by omega) ⟨fun _ => lp4 300 0 τ (by omega) (by omega) (A.mono (fun a j x => Or.inl x)) h1 h2 (fun j a c => h3 j a (by omega)) (fun j a c => by omega) (fun j a => A.I (by omega)), fun z => by omega⟩
    | succ m ih =>
      intro k τ k0 hk A h1 h2 h3
      have A1 : Fr (fun a j => ¬ (a = 99 ∧ j = k)) τ (sI τ 99 k (gI τ 78 k)) := fr_sI (by omega) (fun a j x => x)
      refine bX8_image_53 (by omega) ⟨fun z => by omega, fun _ => ⟨⟨k0, by omega⟩, ih (k + 1) _ (by omega) (by omega) (A.trans (A1.mono (fun a j x => by omega))) (fun j a c => by rw [A1.I (by omega)]; exact h1 j a c) (fun j a c => by rw [A1.I (by omega)]; exact h2 j a c) (fun j a c => ?_)⟩⟩
      by_cases z : j = k
      · rw [z, gI_self]; exact A.I (by omega)
      · rw [gI_ne _ _ _ z]; exact h3 j a (by omega)
  have lp2 : ∀ (m : Nat) (k : Int) (τ : ASt), 0 ≤ k → k + m = 3 → Fr (fun a j => a < 97 ∨ a = 100) σ τ → (∀ j : Int, 0 ≤ j → j < 24 → gI τ 97 j = gI σ 73 j) → (∀ j : Int, 0 ≤ j → j < k → gI τ 98 j = gI σ 74 j) → Wx K_X8_image (QI Q) 28 [(0, .ref 72), (1, .int (iI k))] [] τ := by
    intro m
    induction m with
    | zero =>
      intro k τ k0 hk A h1 h2
      exact bX8_image_28 (by omega) ⟨fun _ => lp3 6 0 τ (by omega) (by omega) A h1 (fun j a c => h2 j a (by omega)) (fun j a c => by omega), fun z => by omega⟩
    | succ m ih =>
      intro k τ k0 hk A h1 h2
      have A1 : Fr (fun a j => ¬ (a = 98 ∧ j = k)) τ (sI τ 98 k (gI τ 74 k)) := fr_sI (by omega) (fun a j x => x)
      refine bX8_image_28 (by omega) ⟨fun z => by omega, fun _ => ⟨⟨k0, by omega⟩, ih (k + 1) _ (by omega) (by omega) (A.trans (A1.mono (fun a j x => by omega))) (fun j a c => by rw [A1.I (by omega)]; exact h1 j a c) (fun j a c => ?_)⟩⟩
      by_cases z : j = k
      · rw [z, gI_self]; exact A.I (by omega)
      · rw [gI_ne _ _ _ z]; exact h2 j a (by omega)
  have lp1 : ∀ (m : Nat) (k : Int) (τ : ASt), 0 ≤ k → k + m = 24 → Fr (fun a j => a < 97 ∨ a = 100) σ τ → (∀ j : Int, 0 ≤ j → j < k → gI τ 97 j = gI σ 73 j) → Wx K_X8_image (QI Q) 2 [(0, .ref 72), (1, .int (iI k))] [] τ := by
    intro m
    induction m with
    | zero =>
      intro k τ k0 hk A h1
      exact bX8_image_2 (by omega) ⟨fun _ => lp2 3 0 τ (by omega) (by omega) A (fun j a c => h1 j a (by omega)) (fun j a c => by omega), fun z => by omega⟩
    | succ m ih =>
      intro k τ k0 hk A h1
      have A1 : Fr (fun a j => ¬ (a = 97 ∧ j = k)) τ (sI τ 97 k (gI τ 73 k)) := fr_sI (by omega) (fun a j x => x)
      refine bX8_image_2 (by omega) ⟨fun z => by omega, fun _ => ⟨⟨k0, by omega⟩, ih (k + 1) _ (by omega) (by omega) (A.trans (A1.mono (fun a j x => by omega))) (fun j a c => ?_)⟩⟩
      by_cases z : j = k
      · rw [z, gI_self]; exact A.I (by omega)
      · rw [gI_ne _ _ _ z]; exact h1 j a (by omega)
  exact eX8_image (lp1 24 0 σ (by omega) (by omega) Fr.rf (fun j a c => by omega))
theorem M_undo {σ : ASt} {α : AB} (W : WF α) (C : MAll σ α) {Q : Int → ASt → Prop} (hq : ∀ τ, MO σ τ → MAll τ (oUndo α).2 → Q (oUndo α).1 τ) : EvI K_X8_undo [.ref 72] σ Q := by
  have C0 := C
  obtain ⟨c1, c2, c3, c4, c5, c6, c7⟩ := C
  have w1 := W.1
  unfold oUndo at hq
  refine eX8_undo ⟨by rw [c6.1]; omega, fun q => ?_, fun q => by rw [c6.1] at q; rw [pit_pos q] at hq; exact hq σ Ag.rf C0⟩
  rw [c6.1] at q
  have K : aK α = 1 := by omega
  rw [pit_neg q] at hq
  obtain ⟨k1, k2⟩ := c6.2 K
  have WU := W.und K
  have lp4 : ∀ (m : Nat) (k : Int) (τ : ASt), 0 ≤ k → k + m = 300 → Fr (fun a j => a = 72 ∨ a = 81 ∨ a = 82 ∨ (92 ≤ a ∧ a ≤ 95) ∨ 97 ≤ a) σ τ → (∀ i : Int, 0 ≤ i → i < 3 → MB τ i (aS α (3 + i.toNat)) (aN α (3 + i.toNat)) (aH α (3 + i.toNat))) → (∀ j : Int, 0 ≤ j → j < 6 → gI τ 78 j = gI σ 99 j) → (∀ j : Int, 0 ≤ j → j < k → gI τ 79 j = gI σ 100 j) → (∀ j : Int, k ≤ j → gI τ 79 j = gI σ 79 j) → Wx K_X8_undo (QI Q) 94 [(0, .ref 72), (1, .int (iI k))] [] τ := by
    intro m
    induction m with
    | zero =>
      intro k τ k0 hk A h1 h3 h4 h5
      have A1 : Fr (fun a j => ¬ (a = 72 ∧ j = 10)) τ (sI τ 72 10 0) := fr_sI (by omega) (fun a j x => x)
      have A2 : Fr (fun a j => (a = 72 ∨ a = 81 ∨ a = 82 ∨ (92 ≤ a ∧ a ≤ 95) ∨ 97 ≤ a) ∧ ¬ (a = 72 ∧ j = 10)) σ (sI τ 72 10 0) := (A.mono (fun a j x => x.1)).trans (A1.mono (fun a j x => x.2))
      have CC : MAll (sI τ 72 10 0) (sUnd α) := by
        refine ⟨fun i a c => ?_, fun r a c => ?_, ⟨gI_self _ _ _ _, Nat.zero_le 12, fun j x hx => by cases hx⟩, c4.fr A2 (by omega) (fun _ => by omega), fun w a c => (c5 w a c).fr A2 (by omega) (by omega) (fun _ _ _ => by omega), ⟨(A2.I (by omega)).trans c6.1, fun _ => ⟨fun i a c => ?_, fun r a c => ?_⟩⟩, fun j a => ⟨fun c => ?_, fun c => ?_, fun c => ?_⟩⟩
        · show MB _ i (lo 3 (aS α) i.toNat) (lo 3 (aN α) i.toNat) (lo 3 (aH α) i.toNat)
          unfold lo
          rw [if_pos (by omega), if_pos (by omega), if_pos (by omega)]
          exact (h1 i a c).fr A1 (fun a j x y => by omega)
        · have e1 : rB (sUnd α) r = aB α (6 + r.toNat) := if_pos (by omega)
          have e2 : rD (sUnd α) r = aD α (6 + r.toNat) := if_pos (by omega)
          rw [e1, e2]
          refine ⟨?_, fun z k k0 k1 => ?_⟩
          · rw [A1.I (by omega), h3 r a c]; exact (k2 r a c).1
          · have w := W.2.2.1 (6 + r.toNat) (Or.inr ⟨by omega, K⟩)
            have e3 : rH (sUnd α) r = aH α (3 + (aB α (6 + r.toNat)).toNat) := by
              show lo 3 (aH α) (rB (sUnd α) r).toNat = _
              rw [e1]
              exact if_pos (by omega)
            rw [e3] at k1
            have h43 := (W.2.1 (3 + (aB α (6 + r.toNat)).toNat) (Or.inr ⟨by omega, K⟩)).h43
            rw [A1.I (by omega), h4 _ (by omega) (by omega)]
            exact (k2 r a c).2 z k k0 k1
        · have e1 : aN (sUnd α) (3 + i.toNat) = aN α (3 + i.toNat) := by show lo 3 (aN α) (3 + i.toNat) = _; unfold lo; rw [if_neg (by omega)]
          have e2 : aS (sUnd α) (3 + i.toNat) = aS α (3 + i.toNat) := by show lo 3 (aS α) (3 + i.toNat) = _; unfold lo; rw [if_neg (by omega)]
          rw [e1, e2]
          refine ⟨(A2.I (by omega)).trans (k1 i a c).1, fun k x y => (A2.I (by omega)).trans ((k1 i a c).2 k x y)⟩
        · have e1 : aB (sUnd α) (6 + r.toNat) = aB α (6 + r.toNat) := by show lo 6 (aB α) (6 + r.toNat) = _; unfold lo; rw [if_neg (by omega)]
          have e2 : aD (sUnd α) (6 + r.toNat) = aD α (6 + r.toNat) := by show lo 6 (aD α) (6 + r.toNat) = _; unfold lo; rw [if_neg (by omega)]
          rw [e1, e2]
          refine ⟨(A2.I (by omega)).trans (k2 r a c).1, fun z k x y => (A2.I (by omega)).trans ((k2 r a c).2 z k x ?_)⟩
          have e3 : aH (sUnd α) (3 + (aB α (6 + r.toNat)).toNat) = aH α (3 + (aB α (6 + r.toNat)).toNat) := by show lo 3 (aH α) (3 + _) = _; unfold lo; rw [if_neg (by omega)]
          rw [e3] at y; exact y
        · rw [A1.I (by omega), h4 j a (by omega)]; exact (c7 j a).2.2 c
        · rw [A2.I (by omega)]; exact (c7 j a).2.1 c
        · rw [A2.I (by omega)]; exact (c7 j a).2.2 c
      refine bX8_undo_94 (by omega) ⟨fun _ => sp_full WU CC.2.1 (hq _ A2.1 CC), fun z => by omega⟩
    | succ m ih =>
      intro k τ k0 hk A h1 h3 h4 h5
      have A1 : Fr (fun a j => ¬ (a = 79 ∧ j = k)) τ (sI τ 79 k (gI τ 100 k)) := fr_sI (by omega) (fun a j x => x)
      refine bX8_undo_94 (by omega) ⟨fun z => by omega, fun _ => ⟨⟨k0, by omega⟩, ih (k + 1) _ (by omega) (by omega) (A.trans (A1.mono (fun a j x => by omega))) (fun i a c => (h1 i a c).fr A1 (fun a j x y => by omega)) (fun j a c => by rw [A1.I (by omega)]; exact h3 j a c) (fun j a c => ?_) (fun j a => by rw [A1.I (by omega)]; exact h5 j (by omega))⟩⟩
      by_cases z : j = k
      · rw [z, gI_self]; exact A.I (by omega)
      · rw [gI_ne _ _ _ z]; exact h4 j a (by omega)
  have lp3 : ∀ (m : Nat) (k : Int) (τ : ASt), 0 ≤ k → k + m = 6 → Fr (fun a j => a = 72 ∨ a = 79 ∨ a = 81 ∨ a = 82 ∨ (92 ≤ a ∧ a ≤ 95) ∨ 97 ≤ a) σ τ → (∀ i : Int, 0 ≤ i → i < 3 → MB τ i (aS α (3 + i.toNat)) (aN α (3 + i.toNat)) (aH α (3 + i.toNat))) → (∀ j : Int, 0 ≤ j → j < k → gI τ 78 j = gI σ 99 j) → Wx K_X8_undo (QI Q) 68 [(0, .ref 72), (1, .int (iI k))] [] τ := by
    intro m
    induction m with
    | zero =>
      intro k τ k0 hk A h1 h3
      exact bX8_undo_68 (by omega) ⟨fun _ => lp4 300 0 τ (by omega) (by omega) (A.mono (fun a j x => by omega)) h1 (fun j a c => h3 j a (by omega)) (fun j a c => by omega) (fun j a => A.I (by omega)), fun z => by omega⟩
    | succ m ih =>
      intro k τ k0 hk A h1 h3
      have A1 : Fr (fun a j => ¬ (a = 78 ∧ j = k)) τ (sI τ 78 k (gI τ 99 k)) := fr_sI (by omega) (fun a j x => x)
      refine bX8_undo_68 (by omega) ⟨fun z => by omega, fun _ => ⟨⟨k0, by omega⟩, ih (k + 1) _ (by omega) (by omega) (A.trans (A1.mono (fun a j x => by omega))) (fun i a c => (h1 i a c).fr A1 (fun a j x y => by omega)) (fun j a c => ?_)⟩⟩
      by_cases z : j = k
      · rw [z, gI_self]; exact A.I (by omega)
      · rw [gI_ne _ _ _ z]; exact h3 j a (by omega)
  have lp2 : ∀ (m : Nat) (k : Int) (τ : ASt), 0 ≤ k → k + m = 3 → Fr (fun a j => a = 72 ∨ a = 79 ∨ a = 81 ∨ a = 82 ∨ (92 ≤ a ∧ a ≤ 95) ∨ 97 ≤ a) σ τ → (∀ j : Int, 0 ≤ j → j < 24 → gI τ 73 j = gI σ 97 j) → (∀ i : Int, 0 ≤ i → i < k → MB τ i (aS α (3 + i.toNat)) (aN α (3 + i.toNat)) (aH α (3 + i.toNat))) → Wx K_X8_undo (QI Q) 38 [(0, .ref 72), (1, .int (iI k))] [] τ := by
    intro m
    induction m with
    | zero =>
      intro k τ k0 hk A h73 h1
      exact bX8_undo_38 (by omega) ⟨fun _ => lp3 6 0 τ (by omega) (by omega) A (fun i a c => h1 i a (by omega)) (fun j a c => by omega), fun z => by omega⟩
    | succ m ih =>
      intro k τ k0 hk A h73 h1
      have A1 : Fr (fun a j => ¬ (a = 74 ∧ j = k)) τ (sI τ 74 k (gI τ 98 k)) := fr_sI (by omega) (fun a j x => x)
      have B := W.2.1 (3 + k.toNat) (Or.inr ⟨by omega, K⟩)
      have hk1 := k1 k k0 (by omega)
      have h43 := B.h43
      have n8 := B.2.1
      have e98 : gI τ 98 k = aN α (3 + k.toNat) := (A.I (by omega)).trans hk1.1
      refine bX8_undo_38 (by omega) ⟨fun z => by omega, fun _ => ⟨⟨k0, by omega⟩, ?_⟩⟩
      refine sp_fills k0 (by omega) B.1 B.2.1 B.2.2.1 B.2.2.2.1 (by rw [gI_self]; exact e98) (fun j a c => ?_) (fun h υ B2 A2 M2 => ?_)
      · rw [A1.I (by omega), h73 _ (by omega) (by omega)]; exact hk1.2 j a c
      · have eh := B2.uniq B
        subst eh
        refine ih (k + 1) υ (by omega) (by omega) ((A.trans (A1.mono (fun a j x => by omega))).trans (A2.mono (fun a j x => by omega))) (fun j a c => ?_) (fun i a c => ?_)
        · rw [A2.I (by omega), A1.I (by omega)]; exact h73 j a c
        · by_cases z : i = k
          · rw [z]; exact M2
          · have b := h1 i a (by omega)
            have BB := W.2.1 (3 + i.toNat) (Or.inr ⟨by omega, K⟩)
            have h43' := BB.h43
            exact ⟨by rw [A2.I (by omega), A1.I (by omega)]; exact b.1, by rw [A2.I (by omega), A1.I (by omega)]; exact b.2.1, by rw [A2.L (by omega), A1.L (by omega)]; exact b.2.2.1, fun j x y => by rw [A2.I (by omega), A1.I (by omega)]; exact b.2.2.2.1 j x y, fun j x y => by rw [A2.L (by omega), A1.L (by omega)]; exact b.2.2.2.2 j x y⟩
  have lp1 : ∀ (m : Nat) (k : Int) (τ : ASt), 0 ≤ k → k + m = 24 → Fr (fun a j => a ≠ 73) σ τ → (∀ j : Int, 0 ≤ j → j < k → gI τ 73 j = gI σ 97 j) → Wx K_X8_undo (QI Q) 12 [(0, .ref 72), (1, .int (iI k))] [] τ := by
    intro m
    induction m with
    | zero =>
      intro k τ k0 hk A h1
      exact bX8_undo_12 (by omega) ⟨fun _ => lp2 3 0 τ (by omega) (by omega) (A.mono (fun a j x => by omega)) (fun j a c => h1 j a (by omega)) (fun i a c => by omega), fun z => by omega⟩
    | succ m ih =>
      intro k τ k0 hk A h1
      have A1 : Fr (fun a j => ¬ (a = 73 ∧ j = k)) τ (sI τ 73 k (gI τ 97 k)) := fr_sI (by omega) (fun a j x => x)
      refine bX8_undo_12 (by omega) ⟨fun z => by omega, fun _ => ⟨⟨k0, by omega⟩, ih (k + 1) _ (by omega) (by omega) (A.trans (A1.mono (fun a j x => by omega))) (fun j a c => ?_)⟩⟩
      by_cases z : j = k
      · rw [z, gI_self]; exact A.I (by omega)
      · rw [gI_ne _ _ _ z]; exact h1 j a (by omega)
  exact lp1 24 0 σ (by omega) (by omega) Fr.rf (fun j a c => by omega)
