/-! states that agree; sums; worths -/
def Ag (P : Nat → Prop) (σ τ : ASt) : Prop := ∀ a, P a → τ.1 a = σ.1 a ∧ τ.2.1 a = σ.2.1 a ∧ τ.2.2 a = σ.2.2 a
theorem Ag.rf {P : Nat → Prop} {σ : ASt} : Ag P σ σ := fun _ _ => ⟨rfl, rfl, rfl⟩
theorem Ag.trans {P : Nat → Prop} {σ τ υ : ASt} (h1 : Ag P σ τ) (h2 : Ag P τ υ) : Ag P σ υ := fun a h => ⟨(h2 a h).1.trans (h1 a h).1, (h2 a h).2.1.trans (h1 a h).2.1, (h2 a h).2.2.trans (h1 a h).2.2⟩
theorem Ag.mono {P P' : Nat → Prop} {σ τ : ASt} (h : Ag P σ τ) (hp : ∀ a, P' a → P a) : Ag P' σ τ := fun a q => h a (hp a q)
theorem Ag.I {P : Nat → Prop} {σ τ : ASt} (h : Ag P σ τ) {a : Nat} (hp : P a) (j : Int) : gI τ a j = gI σ a j := congrFun (h a hp).1 j
theorem Ag.L {P : Nat → Prop} {σ τ : ASt} (h : Ag P σ τ) {a : Nat} (hp : P a) (j : Int) : gL τ a j = gL σ a j := congrFun (h a hp).2.1 j
theorem Ag.P {P : Nat → Prop} {σ τ : ASt} (h : Ag P σ τ) {a : Nat} (hp : P a) (j : Nat) : gP τ a j = gP σ a j := congrFun (h a hp).2.2 j
theorem ag_sI {P : Nat → Prop} {σ : ASt} {a : Nat} {i v : Int} (hp : ∀ b, P b → b ≠ a) : Ag P σ (sI σ a i v) := fun b hb => ⟨by funext j; exact if_neg (fun q => hp b hb q.1), rfl, rfl⟩
theorem ag_sL {P : Nat → Prop} {σ : ASt} {a : Nat} {i v : Int} (hp : ∀ b, P b → b ≠ a) : Ag P σ (sL σ a i v) := fun b hb => ⟨rfl, by funext j; exact if_neg (fun q => hp b hb q.1), rfl⟩
theorem ag_sP {P : Nat → Prop} {σ : ASt} {a i : Nat} {v : Option Nat} (hp : ∀ b, P b → b ≠ a) : Ag P σ (sP σ a i v) := fun b hb => ⟨rfl, rfl, by funext j; exact if_neg (fun q => hp b hb q.1)⟩
theorem ag_cI {P : Nat → Prop} {σ : ASt} {a c : Nat} {x y z : Int} (hp : ∀ b, P b → b ≠ a) : Ag P σ (cI σ c a x y z) := fun b hb => ⟨if_neg (hp b hb), rfl, rfl⟩
theorem ag_cL {P : Nat → Prop} {σ : ASt} {a c : Nat} {x y z : Int} (hp : ∀ b, P b → b ≠ a) : Ag P σ (cL σ c a x y z) := fun b hb => ⟨rfl, if_neg (hp b hb), rfl⟩
theorem gI_sI (σ : ASt) (a b : Nat) (i j v : Int) : gI (sI σ a i v) b j = if b = a ∧ j = i then v else gI σ b j := rfl
theorem gI_sL (σ : ASt) (a b : Nat) (i j v : Int) : gI (sL σ a i v) b j = gI σ b j := rfl
theorem gI_sP (σ : ASt) (a b i : Nat) (j : Int) (v : Option Nat) : gI (sP σ a i v) b j = gI σ b j := rfl
theorem gL_sI (σ : ASt) (a b : Nat) (i j v : Int) : gL (sI σ a i v) b j = gL σ b j := rfl
theorem gL_sL (σ : ASt) (a b : Nat) (i j v : Int) : gL (sL σ a i v) b j = if b = a ∧ j = i then v else gL σ b j := rfl
theorem gL_sP (σ : ASt) (a b i : Nat) (j : Int) (v : Option Nat) : gL (sP σ a i v) b j = gL σ b j := rfl
theorem gP_sI (σ : ASt) (a b : Nat) (i v : Int) (j : Nat) : gP (sI σ a i v) b j = gP σ b j := rfl
theorem gP_sL (σ : ASt) (a b : Nat) (i v : Int) (j : Nat) : gP (sL σ a i v) b j = gP σ b j := rfl
theorem gP_sP (σ : ASt) (a b i j : Nat) (v : Option Nat) : gP (sP σ a i v) b j = if b = a ∧ j = i then v else gP σ b j := rfl
theorem gI_self (σ : ASt) (a : Nat) (i v : Int) : gI (sI σ a i v) a i = v := if_pos ⟨rfl, rfl⟩
theorem gI_ne (σ : ASt) (a : Nat) {i j : Int} (v : Int) (h : j ≠ i) : gI (sI σ a i v) a j = gI σ a j := if_neg (fun q => h q.2)
theorem gI_na (σ : ASt) {a b : Nat} (i j v : Int) (h : b ≠ a) : gI (sI σ a i v) b j = gI σ b j := if_neg (fun q => h q.1)
theorem gL_self (σ : ASt) (a : Nat) (i v : Int) : gL (sL σ a i v) a i = v := if_pos ⟨rfl, rfl⟩
theorem gL_ne (σ : ASt) (a : Nat) {i j : Int} (v : Int) (h : j ≠ i) : gL (sL σ a i v) a j = gL σ a j := if_neg (fun q => h q.2)
theorem gL_na (σ : ASt) {a b : Nat} (i j v : Int) (h : b ≠ a) : gL (sL σ a i v) b j = gL σ b j := if_neg (fun q => h q.1)
theorem gI_cI (σ : ASt) (a b : Nat) (sp dp n j : Int) : gI (cI σ a b sp dp n) b j = if dp ≤ j ∧ j < dp + n then gI σ a (sp + (j - dp)) else gI σ b j := by
  simp [gI, cI, uI]
theorem gL_cL (σ : ASt) (a b : Nat) (sp dp n j : Int) : gL (cL σ a b sp dp n) b j = if dp ≤ j ∧ j < dp + n then gL σ a (sp + (j - dp)) else gL σ b j := by
  simp [gL, cL, uL]
/-- sums over places 0 .. n less 1 -/
def sm (f : Int → Int) : Nat → Int
  | 0 => 0
  | n + 1 => sm f n + f n
theorem sm_congr {f g : Int → Int} : ∀ {n : Nat}, (∀ k : Nat, k < n → f k = g k) → sm f n = sm g n
  | 0, _ => rfl
  | n + 1, h => by
    show sm f n + f n = sm g n + g n
    rw [sm_congr (fun k hk => h k (by omega)), h n (by omega)]
theorem sm_bound {f : Int → Int} {M : Int} : ∀ {n : Nat}, (∀ k : Nat, k < n → 0 ≤ f k ∧ f k ≤ M) → 0 ≤ sm f n ∧ sm f n ≤ n * M
  | 0, _ => by constructor <;> simp [sm]
  | n + 1, h => by
    have h1 := sm_bound (f := f) (M := M) (n := n) (fun k hk => h k (by omega))
    have h2 := h n (by omega)
    have e : ((n + 1 : Nat) : Int) * M = n * M + M := by rw [Int.natCast_add, Int.add_mul]; simp
    show 0 ≤ sm f n + f n ∧ sm f n + f n ≤ _
    rw [e]; omega
theorem sm_zero {f : Int → Int} : ∀ {n : Nat}, (∀ k : Nat, k < n → f k = 0) → sm f n = 0
  | 0, _ => rfl
  | n + 1, h => by
    show sm f n + f n = 0
    rw [sm_zero (fun k hk => h k (by omega)), h n (by omega)]; rfl
theorem sm_split {f : Int → Int} {m : Nat} : ∀ {n : Nat}, m ≤ n → (∀ k : Nat, m ≤ k → k < n → f k = 0) → sm f n = sm f m
  | 0, h, _ => by rw [Nat.le_zero.mp h]
  | n + 1, h, hz => by
    by_cases e : m = n + 1
    · rw [e]
    · show sm f n + f n = sm f m
      rw [sm_split (n := n) (by omega) (fun k h1 h2 => hz k h1 (by omega)), hz n (by omega) (by omega)]; omega
/-- worths: W0 1, W1 the step 0 and 1, then each by its step of the one below, and the one below that -/
def wo (s : Int → Int) : Nat → Int
  | 0 => 1
  | 1 => s 0 + 1
  | k + 2 => s (k + 1) * wo s (k + 1) + wo s k
/-- a base's numbers: the steps of all places, how many there are told, how many worths -/
def BOK (s : Int → Int) (n : Int) (h : Nat) : Prop :=
  1 ≤ n ∧ n ≤ 8 ∧ (∀ k : Int, 0 ≤ k → 1 ≤ s k ∧ s k ≤ 9) ∧ (∀ k : Int, 0 ≤ k → s (k + n) = s k) ∧ 1 ≤ h ∧ (∀ k : Nat, k < h → wo s k ≤ 1000000000) ∧ 1000000000 < wo s h
theorem wo_pos {s : Int → Int} (hs : ∀ k : Int, 0 ≤ k → 1 ≤ s k) : ∀ k : Nat, 1 ≤ wo s k
  | 0 => by simp [wo]
  | 1 => by have := hs 0 (by omega); simp only [wo]; omega
  | k + 2 => by
    have h1 := wo_pos hs (k + 1)
    have h2 := wo_pos hs k
    have h3 := hs (k + 1) (by omega)
    have h4 := Int.mul_le_mul h3 h1 (by omega) (by omega)
    simp only [wo]; omega
theorem wo_ge {s : Int → Int} (hs : ∀ k : Int, 0 ≤ k → 1 ≤ s k) (k : Nat) : wo s (k + 1) + wo s k ≤ wo s (k + 2) := by
  have h1 := wo_pos hs (k + 1)
  have h3 := hs (k + 1) (by omega)
  have h4 := Int.mul_le_mul_of_nonneg_right h3 (show 0 ≤ wo s (k + 1) by omega)
  simp only [wo]; omega
theorem wo_step {s : Int → Int} (k : Nat) (hk : 1 ≤ k) : wo s (k + 1) = s k * wo s k + wo s (k - 1) := by
  obtain ⟨j, rfl⟩ : ∃ j, k = j + 1 := ⟨k - 1, by omega⟩
  simp [wo]
theorem wo_lt {s : Int → Int} (hs : ∀ k : Int, 0 ≤ k → 1 ≤ s k) (k : Nat) : wo s k < wo s (k + 1) := by
  cases k with
  | zero => have := hs 0 (by omega); simp only [wo]; omega
  | succ j =>
    have h1 := wo_ge hs j
    have h2 := wo_pos hs j
    show wo s (j + 1) < wo s (j + 2)
    omega
theorem wo_mono {s : Int → Int} (hs : ∀ k : Int, 0 ≤ k → 1 ≤ s k) {j : Nat} : ∀ {k : Nat}, j ≤ k → wo s j ≤ wo s k
  | 0, h => by rw [Nat.le_zero.mp h]; exact Int.le_refl _
  | k + 1, h => by
    by_cases e : j = k + 1
    · rw [e]; exact Int.le_refl _
    · have := wo_mono hs (j := j) (k := k) (by omega)
      have := wo_lt hs k
      omega
/-- the slowest: worths are no less than those of step 1 -/
def fb : Nat → Int
  | 0 => 1
  | 1 => 2
  | k + 2 => fb (k + 1) + fb k
theorem wo_fb {s : Int → Int} (hs : ∀ k : Int, 0 ≤ k → 1 ≤ s k) : ∀ k : Nat, fb k ≤ wo s k ∧ fb (k + 1) ≤ wo s (k + 1)
  | 0 => by have := hs 0 (by omega); simp only [fb, wo]; omega
  | k + 1 => by
    have h1 := wo_fb hs k
    have h2 := wo_ge hs k
    refine ⟨h1.2, ?_⟩
    show fb (k + 1) + fb k ≤ wo s (k + 2)
    omega
theorem fb_43 : 1000000000 < fb 43 := by decide +kernel
theorem BOK.s1 {s : Int → Int} {n : Int} {h : Nat} (B : BOK s n h) : ∀ k : Int, 0 ≤ k → 1 ≤ s k := fun k hk => (B.2.2.1 k hk).1
theorem BOK.h43 {s : Int → Int} {n : Int} {h : Nat} (B : BOK s n h) : h ≤ 43 := by
  rcases Nat.lt_or_ge 43 h with q | q
  · have h1 := B.2.2.2.2.2.1 43 q
    have h2 := (wo_fb B.s1 43).1
    have := fb_43
    omega
  · exact q
theorem BOK.top {s : Int → Int} {n : Int} {h : Nat} (B : BOK s n h) : wo s h ≤ 10000000000 := by
  obtain ⟨h1, h2, h3, h4, h5, h6, h7⟩ := B
  obtain ⟨j, rfl⟩ : ∃ j, h = j + 1 := ⟨h - 1, by omega⟩
  cases j with
  | zero => have := h3 0 (by omega); simp only [wo] at *; omega
  | succ i =>
    have a1 := h6 (i + 1) (by omega)
    have a2 := h6 i (by omega)
    have a3 := h3 ((i : Int) + 1) (by omega)
    have a4 := wo_pos (fun k hk => (h3 k hk).1) (i + 1)
    have a5 := Int.mul_le_mul a3.2 a1 (by omega) (by omega)
    simp only [wo]; omega
