/-! ways: what is left of a number as greater worths are taken; in how many ways, by how few -/
def sumW (s : Int → Int) (k : Nat) : Int := sm (fun j => wo s j.toNat) k
theorem sumW_succ (s : Int → Int) (k : Nat) : sumW s (k + 1) = sumW s k + wo s k := by
  show sm _ k + wo s (k : Int).toNat = _
  rw [Int.toNat_natCast]; rfl
theorem sumW_nn {s : Int → Int} (hs : ∀ k : Int, 0 ≤ k → 1 ≤ s k) : ∀ k : Nat, 0 ≤ sumW s k
  | 0 => Int.le_refl _
  | k + 1 => by
    have := sumW_nn hs k
    have := wo_pos hs k
    rw [sumW_succ]; omega
theorem sumW_le {s : Int → Int} (hs : ∀ k : Int, 0 ≤ k → 1 ≤ s k) : ∀ k : Nat, sumW s (k + 1) ≤ wo s (k + 1) + wo s k
  | 0 => by
    have := wo_pos hs 1
    rw [sumW_succ]
    show (0 : Int) + wo s 0 ≤ wo s 1 + wo s 0
    omega
  | k + 1 => by
    have h1 := sumW_le hs k
    have h2 := wo_ge hs k
    rw [sumW_succ]
    show sumW s (k + 1) + wo s (k + 1) ≤ wo s (k + 2) + wo s (k + 1)
    omega
/-- the least of g 0 .. g (n - 1), and a million -/
def mn (g : Int → Int) : Nat → Int
  | 0 => 1000000
  | c + 1 => if g c < mn g c then g c else mn g c
theorem mn_glb {g : Int → Int} {x : Int} : ∀ {n : Nat}, x ≤ mn g n ↔ x ≤ 1000000 ∧ ∀ c : Nat, c < n → x ≤ g c
  | 0 => ⟨fun h => ⟨h, fun c hc => by omega⟩, fun h => h.1⟩
  | n + 1 => by
    have ih := mn_glb (g := g) (x := x) (n := n)
    unfold mn
    refine ⟨fun h => ?_, fun h => ?_⟩
    · have h1 : x ≤ mn g n ∧ x ≤ g n := by split at h <;> omega
      have h2 := ih.mp h1.1
      refine ⟨h2.1, fun c hc => ?_⟩
      by_cases e : c = n
      · rw [e]; exact h1.2
      · exact h2.2 c (by omega)
    · have h1 := ih.mpr ⟨h.1, fun c hc => h.2 c (by omega)⟩
      have h2 := h.2 n (by omega)
      split <;> omega
theorem mn_le {g : Int → Int} {n : Nat} : mn g n ≤ 1000000 := (mn_glb.mp (Int.le_refl _)).1
theorem mn_at {g : Int → Int} {n c : Nat} (h : c < n) : mn g n ≤ g c := (mn_glb.mp (Int.le_refl _)).2 c h
theorem mn_ex {g : Int → Int} : ∀ {n : Nat}, mn g n < 1000000 → ∃ c : Nat, c < n ∧ g c = mn g n
  | 0, h => by simp [mn] at h
  | n + 1, h => by
    unfold mn at h ⊢
    by_cases q : g n < mn g n
    · rw [if_pos q]; exact ⟨n, by omega, rfl⟩
    · rw [if_neg q] at h ⊢
      obtain ⟨c, c1, c2⟩ := mn_ex h
      exact ⟨c, by omega, c2⟩
theorem mn_congr {f g : Int → Int} {n : Nat} (h : ∀ c : Nat, c < n → f c = g c ∨ (1000000 ≤ f c ∧ 1000000 ≤ g c)) : mn f n = mn g n := by
  refine Int.le_antisymm (mn_glb.mpr ⟨mn_le, fun c hc => ?_⟩) (mn_glb.mpr ⟨mn_le, fun c hc => ?_⟩)
  · have := mn_at (g := f) hc
    have := mn_le (g := f) (n := n)
    rcases h c hc with q | q <;> omega
  · have := mn_at (g := g) hc
    have := mn_le (g := g) (n := n)
    rcases h c hc with q | q <;> omega
theorem mn_upd {f g : Int → Int} {n p : Nat} (hp : p < n) (h : ∀ c : Nat, c < n → c ≠ p → g c = f c) (h0 : f p = 1000000) : mn g n = if g p < mn f n then g p else mn f n := by
  have f1 := mn_le (g := f) (n := n)
  refine Int.le_antisymm ?_ (mn_glb.mpr ⟨by split <;> omega, fun c hc => ?_⟩)
  · have h1 := mn_at (g := g) hp
    have h2 : mn g n ≤ mn f n := mn_glb.mpr ⟨mn_le, fun c hc => by
      by_cases e : c = p
      · rw [e, h0]; exact mn_le
      · rw [← h c hc e]; exact mn_at hc⟩
    split <;> omega
  · by_cases e : c = p
    · rw [e]; split <;> omega
    · have := mn_at (g := f) hc
      rw [h c hc e]
      split <;> omega
/-- by how few worths, behind the j greatest of h: a million where it can't be -/
def fw (s : Int → Int) (h : Nat) (m v : Int) : Nat → Int → Int
  | 0, r => if r = v then 0 else 1000000
  | j + 1, r => if 0 ≤ r ∧ r ≤ m * sumW s (h - 1 - j) then mn (fun c => fw s h m v j (r + c * wo s (h - 1 - j)) + c) (m.toNat + 1) else 1000000
/-- in how many ways -/
def nw (s : Int → Int) (h : Nat) (m v : Int) : Nat → Int → Int
  | 0, r => if r = v then 1 else 0
  | j + 1, r => if 0 ≤ r ∧ r ≤ m * sumW s (h - 1 - j) then sm (fun c => nw s h m v j (r + c * wo s (h - 1 - j))) (m.toNat + 1) else 0
theorem fw_b {s : Int → Int} {h : Nat} {m v : Int} (m9 : m ≤ 9) : ∀ (j : Nat) (r : Int), 0 ≤ fw s h m v j r ∧ fw s h m v j r ≤ 1000000 ∧ (fw s h m v j r < 1000000 → fw s h m v j r ≤ 9 * j)
  | 0, r => by unfold fw; split <;> omega
  | j + 1, r => by
    unfold fw
    split
    · refine ⟨mn_glb.mpr ⟨by omega, fun c hc => ?_⟩, mn_le, fun q => ?_⟩
      · have := (fw_b (s := s) (h := h) (v := v) m9 j (r + (c : Int) * wo s (h - 1 - j))).1
        show 0 ≤ fw s h m v j (r + (c : Int) * wo s (h - 1 - j)) + (c : Int)
        omega
      · obtain ⟨c, c1, c2⟩ := mn_ex q
        rw [← c2] at q ⊢
        have := (fw_b (s := s) (h := h) (v := v) m9 j (r + (c : Int) * wo s (h - 1 - j))).2.2 (by omega)
        omega
    · omega
theorem nw_z {s : Int → Int} {h : Nat} {m v : Int} (m9 : m ≤ 9) : ∀ (j : Nat) (r : Int), j ≤ h → h ≤ 43 → 1000000 ≤ fw s h m v j r → nw s h m v j r = 0
  | 0, r, _, _, q => by
    unfold fw at q; unfold nw
    split at q
    · omega
    · rename_i z; rw [if_neg z]
  | j + 1, r, hj, h43, q => by
    unfold fw at q; unfold nw
    split at q
    · rename_i z
      rw [if_pos z]
      refine sm_zero (fun c hc => ?_)
      refine nw_z m9 j _ (by omega) h43 ?_
      have h1 := mn_at (g := fun c => fw s h m v j (r + c * wo s (h - 1 - j)) + c) hc
      have h2 := (fw_b (s := s) (h := h) (v := v) m9 j (r + (c : Int) * wo s (h - 1 - j))).2.2
      have h1' : mn (fun c => fw s h m v j (r + c * wo s (h - 1 - j)) + c) (m.toNat + 1) ≤ fw s h m v j (r + (c : Int) * wo s (h - 1 - j)) + (c : Int) := h1
      omega
    · rename_i z; rw [if_neg z]
/-! how many rests there are at most -/
/-- a rest r is v less A of the least worth taken and B of the one below it -/
def RC (s : Int → Int) (h : Nat) (m v : Int) : Nat → Int → Int → Int → Prop
  | 0, A, B, r => A = 0 ∧ B = 0 ∧ r = v
  | j + 1, A, B, r => ∃ B0 c : Int, RC s h m v j B B0 (r + c * wo s (h - 1 - j)) ∧ 0 ≤ c ∧ c ≤ m ∧ A = B * s ((h - 1 - j : Nat) : Int) + B0 + c ∧ 0 ≤ r ∧ r ≤ m * sumW s (h - 1 - j)
theorem fw_RC {s : Int → Int} {h : Nat} {m v : Int} (m0 : 0 ≤ m) : ∀ (j : Nat) (r : Int), fw s h m v j r < 1000000 → ∃ A B, RC s h m v j A B r
  | 0, r, q => by
    unfold fw at q
    split at q
    · rename_i z; exact ⟨0, 0, rfl, rfl, z⟩
    · omega
  | j + 1, r, q => by
    unfold fw at q
    split at q
    · rename_i z
      obtain ⟨c, c1, c2⟩ := mn_ex q
      rw [← c2] at q
      obtain ⟨A, B, R⟩ := fw_RC (s := s) (h := h) (v := v) m0 j (r + (c : Int) * wo s (h - 1 - j)) (by omega)
      exact ⟨_, A, B, c, R, by omega, by omega, rfl, z.1, z.2⟩
    · omega
theorem RC_eq {s : Int → Int} {h : Nat} {m v : Int} : ∀ (j : Nat) (A B r : Int), j < h → RC s h m v j A B r → r = v - A * wo s (h - j) - B * wo s (h - j - 1)
  | 0, A, B, r, _, R => by
    obtain ⟨rfl, rfl, rfl⟩ := R
    omega
  | j + 1, A, B, r, hj, R => by
    obtain ⟨B0, c, R0, c0, c1, rfl, r0, r1⟩ := R
    have ih := RC_eq j B B0 _ (by omega) R0
    have e := wo_step (s := s) (h - 1 - j) (by omega)
    rw [show h - j = (h - 1 - j) + 1 by omega, e, show h - 1 - j + 1 - 1 = h - 1 - j by omega] at ih
    rw [show h - (j + 1) = h - 1 - j by omega, Int.add_mul, Int.add_mul, Int.mul_assoc]
    rw [Int.mul_add] at ih
    omega
theorem RC_r {s : Int → Int} {h : Nat} {m v : Int} {j : Nat} {A B r : Int} (R : RC s h m v (j + 1) A B r) : 0 ≤ r ∧ r ≤ m * sumW s (h - 1 - j) := by
  obtain ⟨B0, c, R0, c0, c1, _, r0, r1⟩ := R
  exact ⟨r0, r1⟩
theorem ways_ineq {m U V T w x y : Int} (m1 : 1 ≤ m) (x1 : 1 ≤ x) (xy : x ≤ y) (hw : x + y ≤ w) (hV : V ≤ 7 * m) (h1 : (-U) * w ≤ m * (w + y) + V * y) (h2 : T * y ≤ m * (y + x) + (-U) * x) : T ≤ 7 * m := by
  rcases Int.lt_or_le (7 * m) T with q | q
  · exfalso
    have a1 : (7 * m + 1) * y ≤ T * y := Int.mul_le_mul_of_nonneg_right (by omega) (by omega)
    have a2 : V * y ≤ 7 * m * y := Int.mul_le_mul_of_nonneg_right hV (by omega)
    have a3 : (6 * m * y + y) * w ≤ (m * x + (-U) * x) * w := by
      refine Int.mul_le_mul_of_nonneg_right ?_ (by omega)
      grind
    have a4 : ((-U) * w) * x ≤ (m * (w + y) + 7 * m * y) * x := Int.mul_le_mul_of_nonneg_right (by omega) (by omega)
    have a5 : (6 * y - 2 * x) * (x + y) ≤ (6 * y - 2 * x) * w := Int.mul_le_mul_of_nonneg_left hw (by omega)
    have a6 : 0 ≤ (3 * y + x) * (y - x) := Int.mul_nonneg (by omega) (by omega)
    have a7 : 8 * (x * y) ≤ (6 * y - 2 * x) * w := by grind
    have a8 : m * (8 * (x * y)) ≤ m * ((6 * y - 2 * x) * w) := Int.mul_le_mul_of_nonneg_left a7 (by omega)
    have a9 : 1 * 1 ≤ y * w := Int.mul_le_mul (by omega) (by omega) (by omega) (by omega)
    grind
  · exact q
theorem RC_near {s : Int → Int} {h : Nat} {m v : Int} (hs : ∀ k : Int, 0 ≤ k → 1 ≤ s k) (m1 : 1 ≤ m) : ∀ (j : Nat) (A B r A' B' r' : Int), j < h → RC s h m v j A B r → RC s h m v j A' B' r' → A - A' ≤ 7 * m ∧ A' - A ≤ 7 * m ∧ B - B' ≤ 7 * m ∧ B' - B ≤ 7 * m
  | 0, A, B, r, A', B', r', _, R, R' => by
    obtain ⟨rfl, rfl, rfl⟩ := R
    obtain ⟨rfl, rfl, _⟩ := R'
    omega
  | j + 1, A, B, r, A', B', r', hj, R, R' => by
    have e1 := RC_eq (j + 1) A B r hj R
    have e1' := RC_eq (j + 1) A' B' r' hj R'
    have rr := RC_r R
    have rr' := RC_r R'
    obtain ⟨B0, c, R0, c0, c1, _, _, _⟩ := R
    obtain ⟨B0', c', R0', c0', c1', _, _, _⟩ := R'
    have ih := RC_near hs m1 j B B0 _ B' B0' _ (by omega) R0 R0'
    have e0 := RC_eq j B B0 _ (by omega) R0
    have e0' := RC_eq j B' B0' _ (by omega) R0'
    -- the three worths
    obtain ⟨k, hk⟩ : ∃ k, h - (j + 1) = k + 1 := ⟨h - (j + 1) - 1, by omega⟩
    have hk0 : h - j = k + 2 := by omega
    have hk1 : h - 1 - j = k + 1 := by omega
    rw [hk, Nat.add_sub_cancel] at e1 e1'
    rw [hk0, hk1, show k + 2 - 1 = k + 1 by omega] at e0 e0'
    rw [hk1] at rr rr'
    have w0 := wo_pos hs k
    have w1 := wo_lt hs k
    have w2 := wo_ge hs k
    have sl := sumW_le hs k
    have sl' : m * sumW s (k + 1) ≤ m * (wo s (k + 1) + wo s k) := Int.mul_le_mul_of_nonneg_left sl (by omega)
    -- the difference at the level above
    have up : (B' - B) * wo s (k + 2) ≤ m * (wo s (k + 2) + wo s (k + 1)) + (B0 - B0') * wo s (k + 1) ∧ (B - B') * wo s (k + 2) ≤ m * (wo s (k + 2) + wo s (k + 1)) + (B0' - B0) * wo s (k + 1) := by
      cases j with
      | zero =>
        obtain ⟨rfl, rfl, _⟩ := R0
        obtain ⟨rfl, rfl, _⟩ := R0'
        have : 0 ≤ m * (wo s (k + 2) + wo s (k + 1)) := Int.mul_nonneg (by omega) (by omega)
        constructor <;> simp <;> exact this
      | succ i =>
        have q := RC_r R0
        have q' := RC_r R0'
        have hki : h - 1 - i = k + 2 := by omega
        have sl2 := sumW_le hs (k + 1)
        have sl3 : m * sumW s (k + 2) ≤ m * (wo s (k + 2) + wo s (k + 1)) := Int.mul_le_mul_of_nonneg_left sl2 (by omega)
        rw [hki] at q q'
        rw [hk1] at q q'
        have b1 : (B' - B) * wo s (k + 2) = B' * wo s (k + 2) - B * wo s (k + 2) := Int.sub_mul _ _ _
        have b2 : (B - B') * wo s (k + 2) = B * wo s (k + 2) - B' * wo s (k + 2) := Int.sub_mul _ _ _
        have b3 : (B0 - B0') * wo s (k + 1) = B0 * wo s (k + 1) - B0' * wo s (k + 1) := Int.sub_mul _ _ _
        have b4 : (B0' - B0) * wo s (k + 1) = B0' * wo s (k + 1) - B0 * wo s (k + 1) := Int.sub_mul _ _ _
        omega
    have b1 : (A - A') * wo s (k + 1) = A * wo s (k + 1) - A' * wo s (k + 1) := Int.sub_mul _ _ _
    have b2 : (A' - A) * wo s (k + 1) = A' * wo s (k + 1) - A * wo s (k + 1) := Int.sub_mul _ _ _
    have b3 : (B - B') * wo s k = B * wo s k - B' * wo s k := Int.sub_mul _ _ _
    have b4 : (B' - B) * wo s k = B' * wo s k - B * wo s k := Int.sub_mul _ _ _
    have n1 : -(B - B') = B' - B := by omega
    have n2 : -(B' - B) = B - B' := by omega
    refine ⟨?_, ?_, ih.1, ih.2.1⟩
    · refine ways_ineq (U := B - B') (V := B0 - B0') (w := wo s (k + 2)) (x := wo s k) (y := wo s (k + 1)) m1 w0 (by omega) (by omega) ih.2.2.1 (by rw [n1]; exact up.1) ?_
      rw [n1, b1, b4]; omega
    · refine ways_ineq (U := B' - B) (V := B0' - B0) (w := wo s (k + 2)) (x := wo s k) (y := wo s (k + 1)) m1 w0 (by omega) (by omega) ih.2.2.2 (by rw [n2]; exact up.2) ?_
      rw [n2, b2, b3]; omega
/-- as many places as there are values, at most -/
theorem pigeon : ∀ (M n : Nat) (f : Nat → Nat), (∀ i, i < n → f i < M) → (∀ i j, i < n → j < n → f i = f j → i = j) → n ≤ M
  | 0, n, f, h1, _ => by
    rcases Nat.eq_zero_or_pos n with z | z
    · omega
    · have := h1 0 z; omega
  | M + 1, n, f, h1, h2 => by
    by_cases q : ∃ i, i < n ∧ f i = M
    · obtain ⟨p, p1, p2⟩ := q
      have := pigeon M (n - 1) (fun i => if i < p then f i else f (i + 1)) (fun i hi => by
        show (if i < p then f i else f (i + 1)) < M
        split
        · have g := h1 i (by omega)
          have : f i ≠ M := fun e => by have := h2 i p (by omega) p1 (by omega); omega
          omega
        · have g := h1 (i + 1) (by omega)
          have : f (i + 1) ≠ M := fun e => by have := h2 (i + 1) p (by omega) p1 (by omega); omega
          omega) (fun i j hi hj e => by
        have e' : (if i < p then f i else f (i + 1)) = (if j < p then f j else f (j + 1)) := e
        split at e' <;> split at e'
        · exact h2 i j (by omega) (by omega) e'
        · have := h2 i (j + 1) (by omega) (by omega) e'; omega
        · have := h2 (i + 1) j (by omega) (by omega) e'; omega
        · have := h2 (i + 1) (j + 1) (by omega) (by omega) e'; omega)
      omega
    · have := pigeon M n f (fun i hi => by
        have g := h1 i hi
        have : f i ≠ M := fun e => q ⟨i, hi, e⟩
        omega) h2
      omega
theorem rests_few {s : Int → Int} {n0 : Int} {h : Nat} (B : BOK s n0 h) {m v : Int} (m1 : 1 ≤ m) (m9 : m ≤ 9) (v0 : 0 ≤ v) (v1 : v ≤ 1000000000) {j : Nat} (hj : j ≤ h) {n : Nat} {R : Int → Int} (h1 : ∀ i : Int, 0 ≤ i → i < n → fw s h m v j (R i) < 1000000) (h2 : ∀ i k : Int, 0 ≤ i → i < n → 0 ≤ k → k < n → R i = R k → i = k) : n ≤ 1216 := by
  have hs := B.s1
  by_cases e : j = h
  · -- all are 0
    have : n ≤ 1 := pigeon 1 n (fun _ => 0) (fun i hi => by omega) (fun i k hi hk _ => by
      have z : ∀ i : Nat, i < n → R i = 0 := fun i hi => by
        have := h1 i (by omega) (by omega)
        have hh := B.2.2.2.2.1
        obtain ⟨j', rfl⟩ : ∃ j', j = j' + 1 := ⟨j - 1, by omega⟩
        unfold fw at this
        split at this
        · rename_i q
          rw [show h - 1 - j' = 0 by omega] at q
          have e0 : sumW s 0 = 0 := rfl
          rw [e0, Int.mul_zero] at q
          omega
        · omega
      have := h2 i k (by omega) (by omega) (by omega) (by omega) (by rw [z i hi, z k hk])
      omega)
    omega
  · have hj' : j < h := by omega
    have ch : ∀ i : Nat, ∃ AB : Int × Int, i < n → RC s h m v j AB.1 AB.2 (R i) := fun i => by
      by_cases q : i < n
      · obtain ⟨A, B, r⟩ := fw_RC (by omega) j (R i) (h1 i (by omega) (by omega))
        exact ⟨(A, B), fun _ => r⟩
      · exact ⟨(0, 0), fun z => absurd z q⟩
    have cs := fun i => Classical.choose_spec (ch i)
    have wk := wo_pos hs (h - j)
    -- a rest is less than 18 of the least worth taken
    have small : ∀ i : Nat, i < n → 0 ≤ R i ∧ R i / wo s (h - j) < 19 ∧ 0 ≤ R i / wo s (h - j) := fun i hi => by
      have r := cs i hi
      have rr : 0 ≤ R i ∧ R i < 19 * wo s (h - j) := by
        cases j with
        | zero =>
          obtain ⟨_, _, e⟩ := r
          have := B.2.2.2.2.2.2
          rw [Nat.sub_zero]
          omega
        | succ j' =>
          have q := RC_r r
          obtain ⟨k, hk⟩ : ∃ k, h - (j' + 1) = k + 1 := ⟨h - (j' + 1) - 1, by omega⟩
          rw [show h - 1 - j' = k + 1 by omega] at q
          rw [hk]
          have sl := sumW_le hs k
          have w1 := wo_lt hs k
          have w0 := wo_pos hs k
          have sl' : m * sumW s (k + 1) ≤ 9 * sumW s (k + 1) := Int.mul_le_mul_of_nonneg_right m9 (sumW_nn hs _)
          omega
      exact ⟨rr.1, Int.ediv_lt_of_lt_mul (by omega) rr.2, Int.ediv_nonneg rr.1 (by omega)⟩
    refine pigeon 1216 n (fun i => (((Classical.choose (ch i)).2 % 64) * 19 + R i / wo s (h - j)).toNat) (fun i hi => ?_) (fun i k hi hk e => ?_)
    · have := small i hi
      have m1 := Int.emod_nonneg (Classical.choose (ch i)).2 (show (64 : Int) ≠ 0 by omega)
      have m2 := Int.emod_lt_of_pos (Classical.choose (ch i)).2 (show (0 : Int) < 64 by omega)
      show (((Classical.choose (ch i)).2 % 64) * 19 + R i / wo s (h - j)).toNat < 1216
      omega
    · have e' : (((Classical.choose (ch i)).2 % 64) * 19 + R i / wo s (h - j)).toNat = (((Classical.choose (ch k)).2 % 64) * 19 + R k / wo s (h - j)).toNat := e
      have s1 := small i hi
      have s2 := small k hk
      have q1 := Int.emod_nonneg (Classical.choose (ch i)).2 (show (64 : Int) ≠ 0 by omega)
      have q2 := Int.emod_nonneg (Classical.choose (ch k)).2 (show (64 : Int) ≠ 0 by omega)
      have near := RC_near hs m1 j _ _ _ _ _ _ hj' (cs i hi) (cs k hk)
      have eB : (Classical.choose (ch i)).2 % 64 = (Classical.choose (ch k)).2 % 64 := by omega
      have eB2 : (Classical.choose (ch i)).2 = (Classical.choose (ch k)).2 := by omega
      have eQ : R i / wo s (h - j) = R k / wo s (h - j) := by omega
      have r1 := RC_eq j _ _ _ hj' (cs i hi)
      have r2 := RC_eq j _ _ _ hj' (cs k hk)
      rw [eB2] at r1
      have dd : (Classical.choose (ch i)).1 = (Classical.choose (ch k)).1 := by
        have g1 := Int.emod_def (R i) (wo s (h - j))
        have g2 := Int.emod_def (R k) (wo s (h - j))
        have g3 := Int.emod_nonneg (R i) (show wo s (h - j) ≠ 0 by omega)
        have g4 := Int.emod_nonneg (R k) (show wo s (h - j) ≠ 0 by omega)
        have g5 := Int.emod_lt_of_pos (R i) (show 0 < wo s (h - j) by omega)
        have g6 := Int.emod_lt_of_pos (R k) (show 0 < wo s (h - j) by omega)
        rw [eQ] at g1
        rcases Int.lt_trichotomy (Classical.choose (ch i)).1 (Classical.choose (ch k)).1 with z | z | z
        · have := Int.mul_le_mul_of_nonneg_right (show (Classical.choose (ch i)).1 + 1 ≤ (Classical.choose (ch k)).1 by omega) (show 0 ≤ wo s (h - j) by omega)
          rw [Int.add_mul] at this
          omega
        · exact z
        · have := Int.mul_le_mul_of_nonneg_right (show (Classical.choose (ch k)).1 + 1 ≤ (Classical.choose (ch i)).1 by omega) (show 0 ≤ wo s (h - j) by omega)
          rw [Int.add_mul] at this
          omega
      have dw : (Classical.choose (ch i)).1 * wo s (h - j) = (Classical.choose (ch k)).1 * wo s (h - j) := congrArg (fun a => a * wo s (h - j)) dd
      have eR : R i = R k := by omega
      have := h2 i k (by omega) (by omega) (by omega) (by omega) eR
      omega
