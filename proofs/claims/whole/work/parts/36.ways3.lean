/-! ways: the class -/
def Asc (n : Int) (R : Int → Int) : Prop := ∀ i k : Int, 0 ≤ i → i < k → k < n → R i < R k
theorem sp_add {o : Nat} (ho : shp o = (0, 5, 0)) {x y w z : Int} (x0 : i64 x) (w0 : i32 w) {σ : ASt} (hz : gI σ o 3 = z) (z0 : 0 ≤ z) (z1 : z < 1300) (hx : ∀ i : Int, 0 ≤ i → i < z → i64 (gL σ (o + 2) i) ∧ i32 (gI σ (o + 6) i)) {Q : ASt → Prop} (hold : ∀ τ, 0 < z → gL σ (o + 2) (z - 1) = x → Ag (fun b => b ≠ o ∧ b ≠ o + 2 ∧ b ≠ o + 4 ∧ b ≠ o + 6) σ τ → gI τ o 3 = z → (∀ i : Int, gL τ (o + 2) i = gL σ (o + 2) i) → (∀ i : Int, gL τ (o + 4) i = if i = z - 1 then gL σ (o + 4) i + y else gL σ (o + 4) i) → (∀ i : Int, gI τ (o + 6) i = if i = z - 1 ∧ w < gI σ (o + 6) i then w else gI σ (o + 6) i) → Q τ) (hnew : ∀ τ, (z = 0 ∨ gL σ (o + 2) (z - 1) ≠ x) → Ag (fun b => b ≠ o ∧ b ≠ o + 2 ∧ b ≠ o + 4 ∧ b ≠ o + 6) σ τ → gI τ o 3 = z + 1 → (∀ i : Int, gL τ (o + 2) i = if i = z then x else gL σ (o + 2) i) → (∀ i : Int, gL τ (o + 4) i = if i = z then y else gL σ (o + 4) i) → (∀ i : Int, gI τ (o + 6) i = if i = z then w else gI σ (o + 6) i) → Q τ) : EvV K_X5_add [.ref o, .long (lI x), .long (lI y), .int (iI w)] σ Q := by
  have e3 : ∀ (τ : ASt) (i u : Int), gI (sI τ (o + 6) i u) o 3 = gI τ o 3 := fun τ i u => gI_na _ _ _ _ (by omega)
  have nw' : (z = 0 ∨ gL σ (o + 2) (z - 1) ≠ x) → Q (sI (sI (sL (sL σ (o + 2) z x) (o + 4) z y) (o + 6) z w) o 3 (z + 1)) := fun q => by
    refine hnew _ q ((((ag_sL (fun b h => h.2.1)).trans (ag_sL (fun b h => h.2.2.1))).trans (ag_sI (fun b h => h.2.2.2))).trans (ag_sI (fun b h => h.1))) (gI_self _ _ _ _) (fun i => ?_) (fun i => ?_) (fun i => ?_)
    · rw [gL_sI, gL_sI, gL_na _ _ _ _ (by omega), gL_sL]
      by_cases e : i = z
      · rw [if_pos ⟨rfl, e⟩, if_pos e]
      · rw [if_neg (fun g => e g.2), if_neg e]
    · rw [gL_sI, gL_sI, gL_sL]
      by_cases e : i = z
      · rw [if_pos ⟨rfl, e⟩, if_pos e]
      · rw [if_neg (fun g => e g.2), if_neg e, gL_na _ _ _ _ (by omega)]
    · rw [gI_na _ _ _ _ (by omega), gI_sI, gI_sL, gI_sL]
      by_cases e : i = z
      · rw [if_pos ⟨rfl, e⟩, if_pos e]
      · rw [if_neg (fun g => e g.2), if_neg e]
  refine eX5_add ho w0 x0 ?_
  simp only [gI_sL, e3, hz]
  refine ⟨by omega, fun q => ⟨fun g => by omega, fun _ => ⟨⟨z0, z1⟩, ⟨z0, z1⟩, ⟨z0, z1⟩, nw' (Or.inl (by omega))⟩⟩, fun q => ⟨fun g => by omega, fun _ => ⟨⟨by omega, by omega⟩, (hx (z - 1) (by omega) (by omega)).1, fun g => ⟨fun g => by omega, fun _ => ⟨⟨z0, z1⟩, ⟨z0, z1⟩, ⟨z0, z1⟩, nw' (Or.inr g)⟩⟩, fun g => ⟨⟨by omega, by omega⟩, (hx (z - 1) (by omega) (by omega)).2, ?_⟩⟩⟩⟩
  refine hold _ q g ((ag_sL (fun b h => h.2.2.1)).trans (ag_sI (fun b h => h.2.2.2))) ?_ (fun i => ?_) (fun i => ?_) (fun i => ?_)
  · rw [e3, gI_sL]; exact hz
  · rw [gL_sI, gL_na _ _ _ _ (by omega)]
  · rw [gL_sI, gL_sL]
    by_cases e : i = z - 1
    · rw [if_pos ⟨rfl, e⟩, if_pos e, e]
    · rw [if_neg (fun g => e g.2), if_neg e]
  · rw [gI_sI, gI_sL]
    by_cases e : i = z - 1
    · rw [if_pos ⟨rfl, e⟩, e]
      by_cases e2 : w < gI σ (o + 6) (z - 1)
      · rw [if_pos e2, if_pos ⟨rfl, e2⟩]
      · rw [if_neg e2, if_neg (fun g => e2 g.2)]
    · rw [if_neg (fun g => e g.2), if_neg (fun g => e g.1)]
theorem sp_firstFrom {f : Nat} (hf : shp f = (0, 5, 0)) {n l : Int} {σ : ASt} (hp : gP σ 14 0 = some f) (hn : gI σ f 3 = n) (n0 : 0 ≤ n) (n1 : n ≤ 1216) (hx : ∀ i : Int, 0 ≤ i → i < n → i64 (gL σ (f + 2) i)) (hl : i64 l) {Q : Int → ASt → Prop} (hq : ∀ x : Int, 0 ≤ x → x ≤ n → (∀ i : Int, 0 ≤ i → i < x → gL σ (f + 2) i < l) → (x < n → l ≤ gL σ (f + 2) x) → Q x σ) : EvI K_X3_firstFrom [.ref 14, .long (lI l)] σ Q := by
  have lp : ∀ (m : Nat) (k : Int), 0 ≤ k → k + m = n → (∀ i : Int, 0 ≤ i → i < k → gL σ (f + 2) i < l) → Wx K_X3_firstFrom (QI Q) 2 [(0, .ref 14), (1, .long (lI l)), (3, .int (iI k))] [] σ := by
    intro m
    induction m with
    | zero =>
      intro k k0 hk hi
      refine bX3_firstFrom_2 (by omega) hl ⟨fun q => (by rw [hp] at q; cases q), fun r1 q => ?_⟩
      rw [hp] at q; cases q
      rw [hn]
      refine ⟨hf, by omega, fun _ => ?_, fun q => by omega⟩
      have : k = n := by omega
      exact hq n n0 (Int.le_refl _) (fun i a b => hi i a (by omega)) (fun q => by omega)
    | succ m ih =>
      intro k k0 hk hi
      refine bX3_firstFrom_2 (by omega) hl ⟨fun q => (by rw [hp] at q; cases q), fun r1 q => ?_⟩
      rw [hp] at q; cases q
      rw [hn]
      refine ⟨hf, by omega, fun q => by omega, fun _ => ⟨fun q => by omega, fun _ => ⟨⟨k0, by omega⟩, hx k k0 (by omega), fun q => ih (k + 1) (by omega) (by omega) (fun i a b => ?_), fun q => hq k k0 (by omega) hi (fun _ => q)⟩⟩⟩
      by_cases e : i = k
      · rw [e]; exact q
      · exact hi i a (by omega)
  exact eX3_firstFrom (lp n.toNat 0 (by omega) (by omega) (fun i a b => by omega))
theorem sp_nextLeast {f : Nat} (hf : shp f = (0, 5, 0)) {n m W : Int} {σ : ASt} (hp : gP σ 14 0 = some f) (hn : gI σ f 3 = n) (n0 : 0 ≤ n) (n1 : n ≤ 1216) (m0 : 0 ≤ m) (m9 : m ≤ 9) (hv : ∀ c : Int, 0 ≤ c → c ≤ m → 0 ≤ gI σ 15 c ∧ gI σ 15 c ≤ n ∧ (gI σ 15 c < n → 0 ≤ gL σ (f + 2) (gI σ 15 c) - c * W ∧ gL σ (f + 2) (gI σ 15 c) - c * W ≤ 1000000000)) {Q : Int → ASt → Prop} (hno : (∀ c : Int, 0 ≤ c → c ≤ m → gI σ 15 c = n) → Q (-1) σ) (hq : ∀ e : Int, 0 ≤ e → e ≤ m → gI σ 15 e < n → (∀ c : Int, 0 ≤ c → c ≤ m → gI σ 15 c < n → gL σ (f + 2) (gI σ 15 e) - e * W ≤ gL σ (f + 2) (gI σ 15 c) - c * W) → Q e σ) : EvI K_X3_nextLeast [.ref 14, .long (lI W), .int (iI m)] σ Q := by
  have lp : ∀ (g : Nat) (c e l : Int), 0 ≤ c → c + g = m + 1 → ((e = -1 ∧ l = 0 ∧ ∀ c' : Int, 0 ≤ c' → c' < c → gI σ 15 c' = n) ∨ (0 ≤ e ∧ e < c ∧ gI σ 15 e < n ∧ l = gL σ (f + 2) (gI σ 15 e) - e * W ∧ ∀ c' : Int, 0 ≤ c' → c' < c → gI σ 15 c' < n → gL σ (f + 2) (gI σ 15 e) - e * W ≤ gL σ (f + 2) (gI σ 15 c') - c' * W)) → Wx K_X3_nextLeast (QI Q) 9 [(0, .ref 14), (1, .long (lI W)), (3, .int (iI m)), (4, .int (iI e)), (5, .long (lI l)), (7, .int (iI c))] [] σ := by
    intro g
    induction g with
    | zero =>
      intro c e l c0 hc h
      have fin : Q e σ := by
        rcases h with ⟨rfl, _, h⟩ | ⟨h1, h2, h3, _, h5⟩
        · exact hno (fun c' a b => h c' a (by omega))
        · exact hq e h1 (by omega) h3 (fun c' a b => h5 c' a (by omega))
      have l64 : i64 l := by
        rcases h with ⟨_, rfl, _⟩ | ⟨h1, h2, h3, rfl, _⟩
        · omega
        · have := (hv e h1 (by omega)).2.2 h3; omega
      have e32 : i32 e := by rcases h with ⟨rfl, _⟩ | ⟨h1, h2, _⟩ <;> omega
      exact bX3_nextLeast_9 (by omega) e32 (by omega) l64 ⟨fun _ => fin, fun q => by omega⟩
    | succ g ih =>
      intro c e l c0 hc h
      have l64 : i64 l := by
        rcases h with ⟨_, rfl, _⟩ | ⟨h1, h2, h3, rfl, _⟩
        · omega
        · have := (hv e h1 (by omega)).2.2 h3; omega
      have e32 : i32 e := by rcases h with ⟨rfl, _⟩ | ⟨h1, h2, _⟩ <;> omega
      have hvc := hv c c0 (by omega)
      refine bX3_nextLeast_9 (by omega) e32 (by omega) l64 ⟨fun q => by omega, fun _ => ⟨fun q => by omega, fun _ => ⟨⟨c0, by omega⟩, by omega, fun q => by omega, fun _ => ⟨fun q => (by rw [hp] at q; cases q), fun r6 q => ?_⟩⟩⟩⟩
      rw [hp] at q; cases q
      rw [hn]
      refine ⟨hf, by omega, fun q => ih (c + 1) e l (by omega) (by omega) ?_, fun q => ⟨fun _ => ⟨⟨by omega, by omega⟩, fun qe => ih (c + 1) c _ (by omega) (by omega) ?_, fun qe => ?_⟩, fun q2 => by omega⟩⟩
      · rcases h with ⟨h1, h2, h3⟩ | ⟨h1, h2, h3, h4, h5⟩
        · refine Or.inl ⟨h1, h2, fun c' a b => ?_⟩
          by_cases z : c' = c
          · rw [z]; omega
          · exact h3 c' a (by omega)
        · refine Or.inr ⟨h1, by omega, h3, h4, fun c' a b d => ?_⟩
          by_cases z : c' = c
          · rw [z] at d; omega
          · exact h5 c' a (by omega) d
      · refine Or.inr ⟨c0, by omega, q, rfl, fun c' a b d => ?_⟩
        by_cases z : c' = c
        · rw [z]; omega
        · rcases h with ⟨h1, h2, h3⟩ | ⟨h1, h2, h3, h4, h5⟩
          · have := h3 c' a (by omega); omega
          · omega
      · have vc := hvc.2.2 q
        refine ⟨by omega, fun q2 => ih (c + 1) e l (by omega) (by omega) ?_, fun q2 => ih (c + 1) c _ (by omega) (by omega) ?_⟩
        · rcases h with ⟨h1, h2, h3⟩ | ⟨h1, h2, h3, h4, h5⟩
          · omega
          · refine Or.inr ⟨h1, by omega, h3, h4, fun c' a b d => ?_⟩
            by_cases z : c' = c
            · rw [z]; omega
            · exact h5 c' a (by omega) d
        · refine Or.inr ⟨c0, by omega, q, rfl, fun c' a b d => ?_⟩
          by_cases z : c' = c
          · rw [z]; omega
          · rcases h with ⟨h1, h2, h3⟩ | ⟨h1, h2, h3, h4, h5⟩
            · have := h3 c' a (by omega); omega
            · have := h5 c' a (by omega) d; omega
  exact eX3_nextLeast (lp (m + 1).toNat 0 (-1) 0 (by omega) (by omega) (Or.inl ⟨rfl, rfl, fun c' a b => by omega⟩))
theorem sm_full {f : Int → Int} {M : Int} : ∀ {n : Nat}, (∀ k : Nat, k < n → f k ≤ M) → n * M ≤ sm f n → ∀ k : Nat, k < n → f k = M
  | 0, _, _, k, hk => by omega
  | n + 1, h, hs, k, hk => by
    have h1 : sm f (n + 1) = sm f n + f n := rfl
    have h2 := h n (by omega)
    have h3 : sm f n ≤ n * M := by
      have : ∀ j : Nat, j ≤ n → sm f j ≤ j * M := by
        intro j
        induction j with
        | zero => intro _; simp [sm]
        | succ j ih =>
          intro hj
          have := ih (by omega)
          have := h j (by omega)
          show sm f j + f j ≤ ((j + 1 : Nat) : Int) * M
          rw [show ((j + 1 : Nat) : Int) = (j : Int) + 1 by omega, Int.add_mul]; omega
      exact this n (Nat.le_refl _)
    rw [show ((n + 1 : Nat) : Int) = (n : Int) + 1 by omega, Int.add_mul] at hs
    by_cases e : k = n
    · rw [e]; omega
    · exact sm_full (n := n) (fun k hk => h k (by omega)) (by omega) k (by omega)
/-- the objects that make a number of worths -/
abbrev WP : Nat → Prop := fun b => b < 14 ∨ 24 ≤ b
theorem sp_take {f t : Nat} (hft : (f = 16 ∧ t = 17) ∨ (f = 17 ∧ t = 16)) {s : Int → Int} {n0 : Int} {h : Nat} (B : BOK s n0 h) {m v : Int} (m1 : 1 ≤ m) (m9 : m ≤ 9) (v0 : 0 ≤ v) (v1 : v ≤ 1000000000) {j : Nat} (hj : j < h) {σ : ASt} (hp : gP σ 14 0 = some f) (hp1 : gP σ 14 1 = some t) {n : Int} (hn : gI σ f 3 = n) (T : Tb (nw s h m v j) (fw s h m v j) n (gL σ (f + 2)) (gL σ (f + 4)) (gI σ (f + 6))) (as : Asc n (gL σ (f + 2))) {Q : ASt → Prop} (hq : ∀ (τ : ASt) (z : Int), Ag (fun b => b ≠ 15 ∧ b ≠ t ∧ b ≠ t + 2 ∧ b ≠ t + 4 ∧ b ≠ t + 6) σ τ → gI τ t 3 = z → Tb (nw s h m v (j + 1)) (fw s h m v (j + 1)) z (gL τ (t + 2)) (gL τ (t + 4)) (gI τ (t + 6)) → Asc z (gL τ (t + 2)) → Q τ) : EvV K_X3_take [.ref 14, .long (lI (wo s (h - 1 - j))), .int (iI m), .long (lI (m * sumW s (h - 1 - j)))] σ Q := by
  have hs := B.s1
  have h43 := B.h43
  have hf : shp f = (0, 5, 0) := by rcases hft with ⟨rfl, _⟩ | ⟨rfl, _⟩ <;> rfl
  have ht : shp t = (0, 5, 0) := by rcases hft with ⟨_, rfl⟩ | ⟨_, rfl⟩ <;> rfl
  have nf := T.few B m1 m9 v0 v1 (by omega)
  have wk := wo_pos hs (h - 1 - j)
  have wk2 := B.2.2.2.2.2.1 (h - 1 - j) (by omega)
  have rb : ∀ i : Int, 0 ≤ i → i < n → 0 ≤ gL σ (f + 2) i ∧ gL σ (f + 2) i ≤ v := fun i a b => fw_r hs v0 (by omega) j _ (T.2.1 i a b).1
  have fb : ∀ i : Int, 0 ≤ i → i < n → 0 ≤ gI σ (f + 6) i ∧ gI σ (f + 6) i ≤ 387 := fun i a b => by
    have g := T.2.1 i a b
    have g2 := fw_b (s := s) (h := h) (v := v) m9 j (gL σ (f + 2) i)
    have := g2.2.2 g.1
    rw [g.2.2]; omega
  have srm : 0 ≤ m * sumW s (h - 1 - j) ∧ m * sumW s (h - 1 - j) ≤ 387000000000 := by
    have a1 := sumW_nn hs (h - 1 - j)
    have a2 : sumW s (h - 1 - j) ≤ ((h - 1 - j : Nat) : Int) * 1000000000 := by
      have := sm_bound (f := fun j => wo s j.toNat) (M := 1000000000) (n := h - 1 - j) (fun k hk => by
        show 0 ≤ wo s (k : Int).toNat ∧ wo s (k : Int).toNat ≤ 1000000000
        rw [Int.toNat_natCast]
        have := wo_pos hs k
        have := B.2.2.2.2.2.1 k (by omega)
        omega)
      exact this.2
    have a3 : m * sumW s (h - 1 - j) ≤ 9 * sumW s (h - 1 - j) := Int.mul_le_mul_of_nonneg_right m9 a1
    have a4 := Int.mul_nonneg (show 0 ≤ m by omega) a1
    omega
  have cW : ∀ c : Int, 0 ≤ c → c ≤ m → 0 ≤ c * wo s (h - 1 - j) ∧ c * wo s (h - 1 - j) ≤ 9000000000 := fun c a b => by
    have b1 := Int.mul_nonneg a (show 0 ≤ wo s (h - 1 - j) by omega)
    have b2 : c * wo s (h - 1 - j) ≤ 9 * wo s (h - 1 - j) := Int.mul_le_mul_of_nonneg_right (by omega) (by omega)
    omega
  -- what changes on the way
  have lp2 : ∀ (g : Nat) (it z : Int) (τ : ASt), it + g = n * (m + 1) → Ag (fun b => b ≠ 15 ∧ b ≠ t ∧ b ≠ t + 2 ∧ b ≠ t + 4 ∧ b ≠ t + 6) σ τ → gI τ t 3 = z → Tp (nw s h m v j) (fw s h m v j) (wo s (h - 1 - j)) (m.toNat + 1) (m * sumW s (h - 1 - j)) (fun c r => ∃ i : Int, 0 ≤ i ∧ i < gI τ 15 c ∧ gL σ (f + 2) i = r + c * wo s (h - 1 - j)) z (gL τ (t + 2)) (gL τ (t + 4)) (gI τ (t + 6)) → Asc z (gL τ (t + 2)) → (∀ c : Int, 0 ≤ c → c ≤ m → 0 ≤ gI τ 15 c ∧ gI τ 15 c ≤ n ∧ ∀ i : Int, gI τ 15 c ≤ i → i < n → c * wo s (h - 1 - j) ≤ gL σ (f + 2) i) → (∀ c : Int, 0 ≤ c → c ≤ m → ∀ i : Int, gI τ 15 c ≤ i → i < n → ∀ e : Int, 0 ≤ e → e < z → gL τ (t + 2) e ≤ gL σ (f + 2) i - c * wo s (h - 1 - j)) → it ≤ sm (gI τ 15) (m.toNat + 1) → 0 ≤ it → Wx K_X3_take (QV Q) 65 [(0, .ref 14), (1, .long (lI (wo s (h - 1 - j)))), (3, .int (iI m)), (4, .long (lI (m * sumW s (h - 1 - j)))), (6, .int (iI (n * (m + 1)))), (7, .int (iI it))] [] τ := by
    intro g
    have nb : n * (m + 1) ≤ 12160 ∧ 0 ≤ n * (m + 1) := by
      have b1 : n * (m + 1) ≤ n * 10 := Int.mul_le_mul_of_nonneg_left (by omega) (by omega)
      have b2 := Int.mul_nonneg (show 0 ≤ n by omega) (show 0 ≤ m + 1 by omega)
      omega
    have fin : ∀ (z : Int) (τ : ASt), Ag (fun b => b ≠ 15 ∧ b ≠ t ∧ b ≠ t + 2 ∧ b ≠ t + 4 ∧ b ≠ t + 6) σ τ → gI τ t 3 = z → Tp (nw s h m v j) (fw s h m v j) (wo s (h - 1 - j)) (m.toNat + 1) (m * sumW s (h - 1 - j)) (fun c r => ∃ i : Int, 0 ≤ i ∧ i < gI τ 15 c ∧ gL σ (f + 2) i = r + c * wo s (h - 1 - j)) z (gL τ (t + 2)) (gL τ (t + 4)) (gI τ (t + 6)) → Asc z (gL τ (t + 2)) → (∀ c : Int, 0 ≤ c → c ≤ m → 0 ≤ gI τ 15 c ∧ gI τ 15 c ≤ n) → (∀ c : Int, 0 ≤ c → c ≤ m → ∀ i : Int, gI τ 15 c ≤ i → i < n → m * sumW s (h - 1 - j) < gL σ (f + 2) i - c * wo s (h - 1 - j)) → Q τ := by
      intro z τ A hz TP AS hc hx
      refine hq τ z A hz (TP.done (by omega) m9 hj h43 (fun c r hc' r0 r1 => ⟨fun ⟨i, a, b, e⟩ => ?_, fun q => ?_⟩)) AS
      · have := hc c (by omega) (by omega)
        have := (T.2.1 i a (by omega)).1
        rw [← e]; exact this
      · obtain ⟨i, a, b, e⟩ := T.2.2.1 _ q
        refine ⟨i, a, ?_, e⟩
        rcases Int.lt_or_le i (gI τ 15 c) with u | u
        · exact u
        · have := hx c (by omega) (by omega) i u b
          omega
    induction g with
    | zero =>
      intro it z τ hit A hz TP AS hc hu cnt it0
      refine bX3_take_65 (by omega) (by omega) (by omega) ⟨fun _ => fin z τ A hz TP AS (fun c a b => ⟨(hc c a b).1, (hc c a b).2.1⟩) (fun c a b i i0 i1 => ?_), fun q => by omega⟩
      have full := sm_full (f := gI τ 15) (M := n) (n := m.toNat + 1) (fun k hk => (hc k (by omega) (by omega)).2.1) (by
        rw [show ((m.toNat + 1 : Nat) : Int) = m + 1 by omega, Int.mul_comm]; omega) c.toNat (by omega)
      rw [Int.toNat_of_nonneg a] at full
      omega
    | succ g ih =>
      intro it z τ hit A hz TP AS hc hu cnt it0
      have pf : gP τ 14 0 = some f := (A.P (by refine ⟨?_, ?_, ?_, ?_, ?_⟩ <;> omega) 0).trans hp
      have pt : gP τ 14 1 = some t := (A.P (by refine ⟨?_, ?_, ?_, ?_, ?_⟩ <;> omega) 1).trans hp1
      have nf' : gI τ f 3 = n := (A.I (by refine ⟨?_, ?_, ?_, ?_, ?_⟩ <;> omega) 3).trans hn
      have eR : ∀ i, gL τ (f + 2) i = gL σ (f + 2) i := fun i => A.L (by refine ⟨?_, ?_, ?_, ?_, ?_⟩ <;> omega) i
      have eY : ∀ i, gL τ (f + 4) i = gL σ (f + 4) i := fun i => A.L (by refine ⟨?_, ?_, ?_, ?_, ?_⟩ <;> omega) i
      have eZ : ∀ i, gI τ (f + 6) i = gI σ (f + 6) i := fun i => A.I (by refine ⟨?_, ?_, ?_, ?_, ?_⟩ <;> omega) i
      refine bX3_take_65 (by omega) (by omega) (by omega) ⟨fun q => by omega, fun _ => ?_⟩
      refine sp_nextLeast (W := wo s (h - 1 - j)) hf pf nf' nf.1 nf.2 (by omega) m9 (fun c a b => ⟨(hc c a b).1, (hc c a b).2.1, fun q => ?_⟩) (fun hall => ⟨fun _ => ?_, fun q => by omega⟩) (fun e e0 e1 e2 hmin => ⟨fun q => by omega, fun _ => ⟨fun q => by omega, fun _ => ⟨⟨e0, by omega⟩, ?_⟩⟩⟩)
      · rw [eR]
        have b1 := (hc c a b).2.2 (gI τ 15 c) (Int.le_refl _) q
        have b2 := rb (gI τ 15 c) (hc c a b).1 q
        have b3 := cW c a b
        omega
      · exact fin z τ A hz TP AS (fun c a b => ⟨(hc c a b).1, (hc c a b).2.1⟩) (fun c a b i i0 i1 => by have := hall c a b; omega)
      -- the pair that comes next
      have he := hc e e0 e1
      have b1 := he.2.2 (gI τ 15 e) (Int.le_refl _) e2
      have b2 := rb (gI τ 15 e) he.1 e2
      have b3 := cW e e0 e1
      have b4 := fb (gI τ 15 e) he.1 e2
      refine ⟨by omega, fun q => by omega, fun _ => ⟨fun q => (by rw [pf] at q; cases q), fun r10 q => ?_⟩⟩
      rw [pf] at q; cases q
      rw [nf', eR, eY, eZ]
      refine ⟨hf, by omega, fun _ => ⟨⟨by omega, by omega⟩, by omega, fun q => ⟨fun q2 => (by rw [pt] at q2; cases q2), fun r20 q2 => ?_⟩, fun q => ?_⟩, fun q => by omega⟩
      · rw [pt] at q2; cases q2
        refine ⟨ht, ?_⟩
        have zf := TP.few B m1 m9 v0 v1 hj (fun c r hc' hpr => by
          obtain ⟨i, a, b, e'⟩ := hpr
          have := hc c (by omega) (by omega)
          rw [← e']
          exact (T.2.1 i a (by omega)).1)
        -- the pairs done, then
        have hP : ∀ (τ' : ASt), (∀ c : Int, gI τ' 15 c = if c = e then gI τ 15 e + 1 else gI τ 15 c) → ∀ c' r : Int, (∃ i : Int, 0 ≤ i ∧ i < gI τ' 15 c' ∧ gL σ (f + 2) i = r + c' * wo s (h - 1 - j)) ↔ (∃ i : Int, 0 ≤ i ∧ i < gI τ 15 c' ∧ gL σ (f + 2) i = r + c' * wo s (h - 1 - j)) ∨ (c' = ((e.toNat : Nat) : Int) ∧ r = gL σ (f + 2) (gI τ 15 e) - e * wo s (h - 1 - j)) := by
          intro τ' h15 c' r
          rw [h15, Int.toNat_of_nonneg e0]
          by_cases z : c' = e
          · subst z
            rw [if_pos rfl]
            refine ⟨fun ⟨i, a, b, e'⟩ => ?_, fun q3 => ?_⟩
            · by_cases z2 : i = gI τ 15 c'
              · right; rw [z2] at e'; exact ⟨rfl, by omega⟩
              · left; exact ⟨i, a, by omega, e'⟩
            · rcases q3 with ⟨i, a, b, e'⟩ | ⟨_, q3⟩
              · exact ⟨i, a, by omega, e'⟩
              · exact ⟨gI τ 15 c', he.1, by omega, by omega⟩
          · rw [if_neg z]
            refine ⟨fun q3 => Or.inl q3, fun q3 => ?_⟩
            rcases q3 with q3 | ⟨q3, _⟩
            · exact q3
            · exact absurd q3 z
        have hno : ¬ (∃ i : Int, 0 ≤ i ∧ i < gI τ 15 ((e.toNat : Nat) : Int) ∧ gL σ (f + 2) i = (gL σ (f + 2) (gI τ 15 e) - e * wo s (h - 1 - j)) + ((e.toNat : Nat) : Int) * wo s (h - 1 - j)) := fun ⟨i, a, b, e'⟩ => by
          rw [Int.toNat_of_nonneg e0] at b e'
          have := as i (gI τ 15 e) a b e2
          omega
        have eN : nw s h m v j ((gL σ (f + 2) (gI τ 15 e) - e * wo s (h - 1 - j)) + ((e.toNat : Nat) : Int) * wo s (h - 1 - j)) = gL σ (f + 4) (gI τ 15 e) := by
          rw [Int.toNat_of_nonneg e0, Int.sub_add_cancel]; exact ((T.2.1 _ he.1 e2).2.1).symm
        have eF : fw s h m v j ((gL σ (f + 2) (gI τ 15 e) - e * wo s (h - 1 - j)) + ((e.toNat : Nat) : Int) * wo s (h - 1 - j)) + ((e.toNat : Nat) : Int) = gI σ (f + 6) (gI τ 15 e) + e := by
          rw [Int.toNat_of_nonneg e0, Int.sub_add_cancel]
          have := (T.2.1 _ he.1 e2).2.2
          omega
        -- what holds behind it, however the table took the rest
        have next : ∀ (υ : ASt) (z' : Int), Ag (fun b => b ≠ t ∧ b ≠ t + 2 ∧ b ≠ t + 4 ∧ b ≠ t + 6) τ υ → gI υ t 3 = z' → Tp (nw s h m v j) (fw s h m v j) (wo s (h - 1 - j)) (m.toNat + 1) (m * sumW s (h - 1 - j)) (fun c r => ∃ i : Int, 0 ≤ i ∧ i < gI (sI υ 15 e (gI υ 15 e + 1)) 15 c ∧ gL σ (f + 2) i = r + c * wo s (h - 1 - j)) z' (gL υ (t + 2)) (gL υ (t + 4)) (gI υ (t + 6)) → Asc z' (gL υ (t + 2)) → (∀ e' : Int, 0 ≤ e' → e' < z' → gL υ (t + 2) e' ≤ gL σ (f + 2) (gI τ 15 e) - e * wo s (h - 1 - j)) → Wx K_X3_take (QV Q) 65 [(0, .ref 14), (1, .long (lI (wo s (h - 1 - j)))), (3, .int (iI m)), (4, .long (lI (m * sumW s (h - 1 - j)))), (6, .int (iI (n * (m + 1)))), (7, .int (iI (it + 1)))] [] (sI υ 15 e (gI υ 15 e + 1)) := by
          intro υ z' A2 hz' TP2 AS2 hle
          have e15 : ∀ c, gI υ 15 c = gI τ 15 c := fun c => A2.I (by refine ⟨?_, ?_, ?_, ?_⟩ <;> omega) c
          have f15 : ∀ c : Int, gI (sI υ 15 e (gI υ 15 e + 1)) 15 c = if c = e then gI τ 15 e + 1 else gI τ 15 c := fun c => by
            rw [gI_sI, e15, e15]
            by_cases z : c = e
            · rw [if_pos ⟨rfl, z⟩, if_pos z]
            · rw [if_neg (fun g => z g.2), if_neg z]
          refine ih (it + 1) z' _ (by omega) ((A.trans (A2.mono (fun b x => x.2))).trans (ag_sI (fun b x => x.1))) (by rw [gI_na _ _ _ _ (by omega)]; exact hz') ?_ AS2 (fun c a b => ?_) (fun c a b i i0 i1 e' e'0 e'1 => ?_) ?_ (by omega)
          · refine TP2.congr (fun _ _ _ _ _ _ => Iff.rfl) (fun _ _ _ => rfl) (fun _ _ _ => rfl) (fun i a b => gI_na _ _ _ _ (by omega))
          · have q0 := hc c a b
            rw [f15]
            by_cases z : c = e
            · rw [if_pos z, z]
              exact ⟨by omega, by omega, fun i i0 i1 => by have := he.2.2 i (by omega) i1; omega⟩
            · rw [if_neg z]; exact q0
          · have e'le : gL υ (t + 2) e' ≤ gL σ (f + 2) (gI τ 15 e) - e * wo s (h - 1 - j) := hle e' e'0 e'1
            show gL υ (t + 2) e' ≤ _
            rw [f15] at i0
            have q0 := hc c a b
            by_cases z : c = e
            · rw [if_pos z] at i0
              have := as (gI τ 15 e) i he.1 (by omega) i1
              rw [z]; omega
            · rw [if_neg z] at i0
              have q1 := hmin c a b (by omega)
              rw [eR, eR] at q1
              rcases Int.lt_or_eq_of_le i0 with u | u
              · have := as (gI τ 15 c) i q0.1 u i1
                omega
              · rw [← u]; omega
          · have up := sm_upd (f := gI τ 15) (g := gI (sI υ 15 e (gI υ 15 e + 1)) 15) (p := e.toNat) (n := m.toNat + 1) (by omega) (fun k hk hke => by rw [f15, if_neg (by omega)])
            rw [up, Int.toNat_of_nonneg e0, f15, if_pos rfl]
            omega
        refine sp_add ht (by omega) (by omega) hz zf.1 (by omega) (fun i a b => ?_) (fun υ zp zx A2 hz' hR2 hY2 hZ2 => ?_) (fun υ zx A2 hz' hR2 hY2 hZ2 => ?_)
        · have g1 := TP.2.1 i a b
          have hr := TP.real m9 hj h43 (fun c r hc' hpr => by
            obtain ⟨i, a, b, e'⟩ := hpr
            have := hc c (by omega) (by omega)
            rw [← e']
            exact (T.2.1 i a (by omega)).1) i a b
          have := g1.1
          refine ⟨by omega, ?_⟩
          rw [g1.2.2.2]
          have m0 := mn_le (g := gF (fw s h m v j) (wo s (h - 1 - j)) (fun c r => ∃ i : Int, 0 ≤ i ∧ i < gI τ 15 c ∧ gL σ (f + 2) i = r + c * wo s (h - 1 - j)) (gL τ (t + 2) i)) (n := m.toNat + 1)
          have m1 : 0 ≤ mn (gF (fw s h m v j) (wo s (h - 1 - j)) (fun c r => ∃ i : Int, 0 ≤ i ∧ i < gI τ 15 c ∧ gL σ (f + 2) i = r + c * wo s (h - 1 - j)) (gL τ (t + 2) i)) (m.toNat + 1) := mn_glb.mpr ⟨by omega, fun c hc' => by
            unfold gF
            by_cases q3 : ∃ i' : Int, 0 ≤ i' ∧ i' < gI τ 15 (c : Int) ∧ gL σ (f + 2) i' = gL τ (t + 2) i + (c : Int) * wo s (h - 1 - j)
            · rw [pit_pos q3]
              have := (fw_b (s := s) (h := h) (v := v) m9 j (gL τ (t + 2) i + (c : Int) * wo s (h - 1 - j))).1
              omega
            · rw [pit_neg q3]; omega⟩
          omega
        · have f15 : ∀ c : Int, gI (sI υ 15 e (gI υ 15 e + 1)) 15 c = if c = e then gI τ 15 e + 1 else gI τ 15 c := fun c => by
            rw [gI_sI, A2.I (by refine ⟨?_, ?_, ?_, ?_⟩ <;> omega), A2.I (by refine ⟨?_, ?_, ?_, ?_⟩ <;> omega)]
            by_cases z : c = e
            · rw [if_pos ⟨rfl, z⟩, if_pos z]
            · rw [if_neg (fun g => z g.2), if_neg z]
          refine next υ z A2 hz' ?_ (fun i k a b c => by rw [hR2, hR2]; exact AS i k a b c) (fun e' a b => by
            rw [hR2]
            exact hu e e0 e1 (gI τ 15 e) (Int.le_refl _) e2 e' a b)
          refine TP.old (c := e.toNat) (e := z - 1) (by omega) (hP _ f15) hno (by omega) (by omega) zx (fun i a b => hR2 i) (fun i a b => ?_) (fun i a b => ?_)
          · rw [hY2, eN]
          · rw [hZ2, eF]
        · have f15 : ∀ c : Int, gI (sI υ 15 e (gI υ 15 e + 1)) 15 c = if c = e then gI τ 15 e + 1 else gI τ 15 c := fun c => by
            rw [gI_sI, A2.I (by refine ⟨?_, ?_, ?_, ?_⟩ <;> omega), A2.I (by refine ⟨?_, ?_, ?_, ?_⟩ <;> omega)]
            by_cases z : c = e
            · rw [if_pos ⟨rfl, z⟩, if_pos z]
            · rw [if_neg (fun g => z g.2), if_neg z]
          have lt : ∀ i : Int, 0 ≤ i → i < z → gL τ (t + 2) i < gL σ (f + 2) (gI τ 15 e) - e * wo s (h - 1 - j) := fun i a b => by
            have g1 := hu e e0 e1 (gI τ 15 e) (Int.le_refl _) e2 (z - 1) (by omega) (by omega)
            rcases zx with zx | zx
            · omega
            · by_cases w : i = z - 1
              · rw [w]; omega
              · have := AS i (z - 1) a (by omega) (by omega)
                omega
          refine next υ (z + 1) A2 hz' ?_ (fun i k a b c => ?_) (fun e' a b => ?_)
          · refine TP.new (c := e.toNat) (x := gL σ (f + 2) (gI τ 15 e) - e * wo s (h - 1 - j)) (by omega) (hP _ f15) (by omega) q (fun i a b => by have := lt i a b; omega) (by rw [eF]; omega) (fun i a b => ?_) (fun i a b => ?_) (fun i a b => ?_) ?_ ?_ ?_
            · rw [hR2, if_neg (by omega)]
            · rw [hY2, if_neg (by omega)]
            · rw [hZ2, if_neg (by omega)]
            · rw [hR2, if_pos rfl]
            · rw [hY2, if_pos rfl, eN]
            · rw [hZ2, if_pos rfl, eF]
          · rw [hR2, hR2, if_neg (by omega)]
            by_cases w : k = z
            · rw [if_pos w]; exact lt i a (by omega)
            · rw [if_neg w]; exact AS i k a b (by omega)
          · rw [hR2]
            by_cases w : e' = z
            · rw [if_pos w]; exact Int.le_refl _
            · rw [if_neg w]; exact Int.le_of_lt (lt e' a (by omega))
      · -- all that's left is too great
        refine fin z τ A hz TP AS (fun c a b => ⟨(hc c a b).1, (hc c a b).2.1⟩) (fun c a b i i0 i1 => ?_)
        have q0 := hc c a b
        have q1 := hmin c a b (by omega)
        rw [eR, eR] at q1
        rcases Int.lt_or_eq_of_le i0 with u | u
        · have := as (gI τ 15 c) i q0.1 u i1
          omega
        · rw [← u]; omega
  have lp1 : ∀ (g : Nat) (c : Int) (τ : ASt), 0 ≤ c → c + g = m + 1 → Ag (fun b => b ≠ 15 ∧ b ≠ t) σ τ → gI τ t 3 = 0 → (∀ c' : Int, 0 ≤ c' → c' < c → 0 ≤ gI τ 15 c' ∧ gI τ 15 c' ≤ n ∧ (∀ i : Int, 0 ≤ i → i < gI τ 15 c' → gL σ (f + 2) i < c' * wo s (h - 1 - j)) ∧ (∀ i : Int, gI τ 15 c' ≤ i → i < n → c' * wo s (h - 1 - j) ≤ gL σ (f + 2) i)) → Wx K_X3_take (QV Q) 11 [(0, .ref 14), (1, .long (lI (wo s (h - 1 - j)))), (3, .int (iI m)), (4, .long (lI (m * sumW s (h - 1 - j)))), (6, .int (iI c))] [] τ := by
    intro g
    induction g with
    | zero =>
      intro c τ c0 hcg A hz hc
      have pf : gP τ 14 0 = some f := (A.P (by constructor <;> omega) 0).trans hp
      have nf' : gI τ f 3 = n := (A.I (by constructor <;> omega) 3).trans hn
      refine bX3_take_11 (by omega) (by omega) ⟨fun _ => ⟨fun q => (by rw [pf] at q; cases q), fun r2 q => ?_⟩, fun q => by omega⟩
      rw [pf] at q; cases q
      rw [nf']
      refine ⟨hf, ?_⟩
      have nb2 := Int.mul_nonneg (show 0 ≤ n by omega) (show 0 ≤ m + 1 by omega)
      refine lp2 (n * (m + 1)).toNat 0 0 τ (by omega) (A.mono (fun b x => ⟨x.1, x.2.1⟩)) hz ?_ (fun i k a b d => by omega) (fun c' a b => ?_) (fun c' a b i i0 i1 e' e'0 e'1 => by omega) ?_ (by omega)
      · refine ⟨by omega, fun i a b => by omega, fun c' r hc' hpr r0 r1 => ?_, fun i k a b => by omega⟩
        obtain ⟨i, a, b, e⟩ := hpr
        have := (hc c' (by omega) (by omega)).2.2.1 i a b
        omega
      · have := hc c' a (by omega)
        exact ⟨this.1, this.2.1, this.2.2.2⟩
      · have := sm_nonneg (f := gI τ 15) (n := m.toNat + 1) (fun k hk => (hc k (by omega) (by omega)).1)
        omega
    | succ g ih =>
      intro c τ c0 hcg A hz hc
      have pf : gP τ 14 0 = some f := (A.P (by constructor <;> omega) 0).trans hp
      have nf' : gI τ f 3 = n := (A.I (by constructor <;> omega) 3).trans hn
      have eR : ∀ i, gL τ (f + 2) i = gL σ (f + 2) i := fun i => A.L (by constructor <;> omega) i
      have b3 := cW c c0 (by omega)
      refine bX3_take_11 (by omega) (by omega) ⟨fun q => by omega, fun _ => ⟨fun q => by omega, fun _ => ?_⟩⟩
      refine sp_firstFrom hf pf nf' nf.1 nf.2 (fun i a b => by rw [eR]; have := rb i a b; omega) (by omega) (fun x x0 x1 hlo hhi => ⟨⟨c0, by omega⟩, ih (c + 1) _ (by omega) (by omega) (A.trans (ag_sI (fun b y => y.1))) (by rw [gI_na _ _ _ _ (by omega)]; exact hz) (fun c' a b => ?_)⟩)
      by_cases z : c' = c
      · rw [z, gI_self]
        refine ⟨x0, x1, fun i a' b' => by rw [← eR]; exact hlo i a' b', fun i i0 i1 => ?_⟩
        have g0 := hhi (by omega)
        rw [eR] at g0
        rcases Int.lt_or_eq_of_le i0 with u | u
        · have := as x i x0 u i1
          omega
        · rw [← u]; exact g0
      · rw [gI_ne _ _ _ z]; exact hc c' a (by omega)
  refine eX3_take ⟨fun q => (by rw [hp1] at q; cases q), fun r1 q => ?_⟩
  rw [hp1] at q; cases q
  exact ⟨ht, lp1 (m + 1).toNat 0 _ (by omega) (by omega) (ag_sI (fun b x => x.2)) (gI_self _ _ _ _) (fun c' a b => by omega)⟩
