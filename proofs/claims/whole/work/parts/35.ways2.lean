/-! ways: rows of rests made one; the class's side -/
noncomputable def gN (N : Int → Int) (W : Int) (Pr : Int → Int → Prop) (r c : Int) : Int := pit (Pr c r) (N (r + c * W)) 0
noncomputable def gF (F : Int → Int) (W : Int) (Pr : Int → Int → Prop) (r c : Int) : Int := pit (Pr c r) (F (r + c * W) + c) 1000000
/-- a table of rests that is under way: of the pairs of a rest and a count of times, those that Pr tells are done -/
def Tp (N F : Int → Int) (W : Int) (M : Nat) (rm : Int) (Pr : Int → Int → Prop) (n : Int) (R Y Z : Int → Int) : Prop :=
  0 ≤ n ∧ (∀ i : Int, 0 ≤ i → i < n → (0 ≤ R i ∧ R i ≤ rm) ∧ (∃ c : Nat, c < M ∧ Pr c (R i)) ∧ Y i = sm (gN N W Pr (R i)) M ∧ Z i = mn (gF F W Pr (R i)) M) ∧
  (∀ (c : Nat) (r : Int), c < M → Pr c r → 0 ≤ r → r ≤ rm → ∃ i : Int, 0 ≤ i ∧ i < n ∧ R i = r) ∧
  (∀ i k : Int, 0 ≤ i → i < n → 0 ≤ k → k < n → R i = R k → i = k)
theorem Tp.congr {N F : Int → Int} {W : Int} {M : Nat} {rm : Int} {Pr Pr' : Int → Int → Prop} {n : Int} {R Y Z R' Y' Z' : Int → Int} (T : Tp N F W M rm Pr n R Y Z) (hP : ∀ c r : Int, 0 ≤ c → c < M → 0 ≤ r → r ≤ rm → (Pr' c r ↔ Pr c r)) (hR : ∀ i : Int, 0 ≤ i → i < n → R' i = R i) (hY : ∀ i : Int, 0 ≤ i → i < n → Y' i = Y i) (hZ : ∀ i : Int, 0 ≤ i → i < n → Z' i = Z i) : Tp N F W M rm Pr' n R' Y' Z' := by
  obtain ⟨t0, t1, t2, t3⟩ := T
  refine ⟨t0, fun i a b => ?_, fun c r hc hp r0 r1 => ?_, fun i k a b c d e => t3 i k a b c d (by rw [hR i a b, hR k c d] at e; exact e)⟩
  · obtain ⟨g1, ⟨c, c1, c2⟩, g3, g4⟩ := t1 i a b
    rw [hR i a b, hY i a b, hZ i a b]
    refine ⟨g1, ⟨c, c1, (hP c _ (by omega) (by omega) g1.1 g1.2).mpr c2⟩, ?_, ?_⟩
    · rw [g3]
      refine sm_congr (fun k hk => ?_)
      unfold gN
      by_cases q : Pr k (R i)
      · rw [pit_pos q, pit_pos ((hP k _ (by omega) (by omega) g1.1 g1.2).mpr q)]
      · rw [pit_neg q, pit_neg (fun z => q ((hP k _ (by omega) (by omega) g1.1 g1.2).mp z))]
    · rw [g4]
      refine mn_congr (fun k hk => Or.inl ?_)
      unfold gF
      by_cases q : Pr k (R i)
      · rw [pit_pos q, pit_pos ((hP k _ (by omega) (by omega) g1.1 g1.2).mpr q)]
      · rw [pit_neg q, pit_neg (fun z => q ((hP k _ (by omega) (by omega) g1.1 g1.2).mp z))]
  · obtain ⟨i, a, b, e⟩ := t2 c r hc ((hP c r (by omega) (by omega) r0 r1).mp hp) r0 r1
    exact ⟨i, a, b, by rw [hR i a b]; exact e⟩
theorem sm_gN {N : Int → Int} {W : Int} {M : Nat} {Pr Pr' : Int → Int → Prop} {x : Int} {c : Nat} (hc : c < M) (hP : ∀ c' r : Int, Pr' c' r ↔ Pr c' r ∨ (c' = c ∧ r = x)) (hn : ¬ Pr c x) (r : Int) : sm (gN N W Pr' r) M = sm (gN N W Pr r) M + (if r = x then N (x + c * W) else 0) := by
  by_cases e : r = x
  · subst e
    rw [if_pos rfl, sm_upd (f := gN N W Pr r) (g := gN N W Pr' r) hc (fun k hk hkc => ?_)]
    · have e1 : gN N W Pr' r c = N (r + c * W) := pit_pos ((hP _ _).mpr (Or.inr ⟨rfl, rfl⟩))
      have e2 : gN N W Pr r c = 0 := pit_neg hn
      rw [e1, e2]; omega
    · unfold gN
      by_cases q : Pr k r
      · rw [pit_pos q, pit_pos ((hP _ _).mpr (Or.inl q))]
      · rw [pit_neg q, pit_neg (fun z => by
          rcases (hP _ _).mp z with w | w
          · exact q w
          · omega)]
  · rw [if_neg e, Int.add_zero]
    refine sm_congr (fun k hk => ?_)
    unfold gN
    by_cases q : Pr k r
    · rw [pit_pos q, pit_pos ((hP _ _).mpr (Or.inl q))]
    · rw [pit_neg q, pit_neg (fun z => by
        rcases (hP _ _).mp z with w | w
        · exact q w
        · exact e w.2)]
theorem mn_gF {F : Int → Int} {W : Int} {M : Nat} {Pr Pr' : Int → Int → Prop} {x : Int} {c : Nat} (hc : c < M) (hP : ∀ c' r : Int, Pr' c' r ↔ Pr c' r ∨ (c' = c ∧ r = x)) (hn : ¬ Pr c x) (r : Int) : mn (gF F W Pr' r) M = if r = x ∧ F (x + c * W) + c < mn (gF F W Pr r) M then F (x + c * W) + c else mn (gF F W Pr r) M := by
  by_cases e : r = x
  · subst e
    rw [mn_upd (f := gF F W Pr r) (g := gF F W Pr' r) hc (fun k hk hkc => ?_) (pit_neg hn)]
    · have e1 : gF F W Pr' r c = F (r + c * W) + c := pit_pos ((hP _ _).mpr (Or.inr ⟨rfl, rfl⟩))
      rw [e1]
      by_cases q : F (r + c * W) + c < mn (gF F W Pr r) M
      · rw [if_pos q, if_pos ⟨rfl, q⟩]
      · rw [if_neg q, if_neg (fun z => q z.2)]
    · unfold gF
      by_cases q : Pr k r
      · rw [pit_pos q, pit_pos ((hP _ _).mpr (Or.inl q))]
      · rw [pit_neg q, pit_neg (fun z => by
          rcases (hP _ _).mp z with w | w
          · exact q w
          · omega)]
  · rw [if_neg (fun z => e z.1)]
    refine mn_congr (fun k hk => Or.inl ?_)
    unfold gF
    by_cases q : Pr k r
    · rw [pit_pos q, pit_pos ((hP _ _).mpr (Or.inl q))]
    · rw [pit_neg q, pit_neg (fun z => by
        rcases (hP _ _).mp z with w | w
        · exact q w
        · exact e w.2)]
/-- one pair more: its rest is there already -/
theorem Tp.old {N F : Int → Int} {W : Int} {M : Nat} {rm : Int} {Pr Pr' : Int → Int → Prop} {n : Int} {R Y Z R' Y' Z' : Int → Int} (T : Tp N F W M rm Pr n R Y Z) {c : Nat} {x e : Int} (hc : c < M) (hP : ∀ c' r : Int, Pr' c' r ↔ Pr c' r ∨ (c' = c ∧ r = x)) (hn : ¬ Pr c x) (e0 : 0 ≤ e) (e1 : e < n) (ex : R e = x) (hR : ∀ i : Int, 0 ≤ i → i < n → R' i = R i) (hY : ∀ i : Int, 0 ≤ i → i < n → Y' i = if i = e then Y i + N (x + c * W) else Y i) (hZ : ∀ i : Int, 0 ≤ i → i < n → Z' i = if i = e ∧ F (x + c * W) + c < Z i then F (x + c * W) + c else Z i) : Tp N F W M rm Pr' n R' Y' Z' := by
  obtain ⟨t0, t1, t2, t3⟩ := T
  refine ⟨t0, fun i a b => ?_, fun c' r hc' hp r0 r1 => ?_, fun i k a b c d q => t3 i k a b c d (by rw [hR i a b, hR k c d] at q; exact q)⟩
  · obtain ⟨g1, ⟨c', c1, c2⟩, g3, g4⟩ := t1 i a b
    rw [hR i a b, hY i a b, hZ i a b, sm_gN hc hP hn, mn_gF hc hP hn, ← g3, ← g4]
    refine ⟨g1, ⟨c', c1, (hP _ _).mpr (Or.inl c2)⟩, ?_, ?_⟩
    · by_cases q : i = e
      · rw [if_pos q, if_pos (by rw [q]; exact ex)]
      · rw [if_neg q, if_neg (fun z => q (t3 i e a b e0 e1 (by rw [z, ex]))), Int.add_zero]
    · by_cases q : i = e
      · rw [q] at *
        by_cases q2 : F (x + c * W) + c < Z e
        · rw [if_pos ⟨rfl, q2⟩, if_pos ⟨ex, q2⟩]
        · rw [if_neg (fun z => q2 z.2), if_neg (fun z => q2 z.2)]
      · rw [if_neg (fun z => q z.1), if_neg (fun z => q (t3 i e a b e0 e1 (by rw [z.1, ex])))]
  · rcases (hP _ _).mp hp with w | w
    · obtain ⟨i, a, b, q⟩ := t2 c' r hc' w r0 r1
      exact ⟨i, a, b, by rw [hR i a b]; exact q⟩
    · exact ⟨e, e0, e1, by rw [hR e e0 e1, ex, w.2]⟩
/-- one pair more: its rest is new -/
theorem Tp.new {N F : Int → Int} {W : Int} {M : Nat} {rm : Int} {Pr Pr' : Int → Int → Prop} {n : Int} {R Y Z R' Y' Z' : Int → Int} (T : Tp N F W M rm Pr n R Y Z) {c : Nat} {x : Int} (hc : c < M) (hP : ∀ c' r : Int, Pr' c' r ↔ Pr c' r ∨ (c' = c ∧ r = x)) (x0 : 0 ≤ x) (x1 : x ≤ rm) (hx : ∀ i : Int, 0 ≤ i → i < n → R i ≠ x) (hf : F (x + c * W) + c < 1000000) (hR : ∀ i : Int, 0 ≤ i → i < n → R' i = R i) (hY : ∀ i : Int, 0 ≤ i → i < n → Y' i = Y i) (hZ : ∀ i : Int, 0 ≤ i → i < n → Z' i = Z i) (hRn : R' n = x) (hYn : Y' n = N (x + c * W)) (hZn : Z' n = F (x + c * W) + c) : Tp N F W M rm Pr' (n + 1) R' Y' Z' := by
  obtain ⟨t0, t1, t2, t3⟩ := T
  have no : ∀ c' : Nat, c' < M → ¬ Pr c' x := fun c' hc' hp => by
    obtain ⟨i, a, b, q⟩ := t2 c' x hc' hp x0 x1
    exact hx i a b q
  have hn := no c hc
  refine ⟨by omega, fun i a b => ?_, fun c' r hc' hp r0 r1 => ?_, fun i k a b c d q => ?_⟩
  · by_cases z : i = n
    · rw [z, hRn, hYn, hZn, sm_gN hc hP hn, mn_gF hc hP hn]
      have s0 : sm (gN N W Pr x) M = 0 := sm_zero (fun k hk => pit_neg (no k hk))
      have m0 : mn (gF F W Pr x) M = 1000000 := Int.le_antisymm mn_le (mn_glb.mpr ⟨Int.le_refl _, fun k hk => by
        have : gF F W Pr x k = 1000000 := pit_neg (no k hk)
        omega⟩)
      rw [s0, m0, if_pos rfl, if_pos ⟨rfl, hf⟩]
      exact ⟨⟨x0, x1⟩, ⟨c, hc, (hP _ _).mpr (Or.inr ⟨rfl, rfl⟩)⟩, by omega, rfl⟩
    · obtain ⟨g1, ⟨c', c1, c2⟩, g3, g4⟩ := t1 i a (by omega)
      have hne := hx i a (by omega)
      rw [hR i a (by omega), hY i a (by omega), hZ i a (by omega), sm_gN hc hP hn, mn_gF hc hP hn, ← g3, ← g4, if_neg hne, if_neg (fun w => hne w.1), Int.add_zero]
      exact ⟨g1, ⟨c', c1, (hP _ _).mpr (Or.inl c2)⟩, rfl, rfl⟩
  · rcases (hP _ _).mp hp with w | w
    · obtain ⟨i, a, b, q⟩ := t2 c' r hc' w r0 r1
      exact ⟨i, a, by omega, by rw [hR i a b]; exact q⟩
    · exact ⟨n, t0, by omega, by rw [hRn, w.2]⟩
  · by_cases z : i = n
    · by_cases z2 : k = n
      · omega
      · rw [z, hRn, hR k c (by omega)] at q
        exact absurd q.symm (hx k c (by omega))
    · by_cases z2 : k = n
      · rw [z2, hRn, hR i a (by omega)] at q
        exact absurd q (hx i a (by omega))
      · rw [hR i a (by omega), hR k c (by omega)] at q
        exact t3 i k a (by omega) c (by omega) q
/-- a table of all rests of a level -/
def Tb (N F : Int → Int) (n : Int) (R Y Z : Int → Int) : Prop := 0 ≤ n ∧ (∀ i : Int, 0 ≤ i → i < n → F (R i) < 1000000 ∧ Y i = N (R i) ∧ Z i = F (R i)) ∧ (∀ r, F r < 1000000 → ∃ i : Int, 0 ≤ i ∧ i < n ∧ R i = r) ∧ (∀ i k : Int, 0 ≤ i → i < n → 0 ≤ k → k < n → R i = R k → i = k)
theorem Tb.congr {N F : Int → Int} {n : Int} {R Y Z R' Y' Z' : Int → Int} (T : Tb N F n R Y Z) (hR : ∀ i : Int, 0 ≤ i → i < n → R' i = R i) (hY : ∀ i : Int, 0 ≤ i → i < n → Y' i = Y i) (hZ : ∀ i : Int, 0 ≤ i → i < n → Z' i = Z i) : Tb N F n R' Y' Z' :=
  ⟨T.1, fun i a b => by rw [hR i a b, hY i a b, hZ i a b]; exact T.2.1 i a b, fun r q => by
    obtain ⟨i, a, b, e⟩ := T.2.2.1 r q
    exact ⟨i, a, b, by rw [hR i a b]; exact e⟩, fun i k a b c d e => T.2.2.2 i k a b c d (by rw [hR i a b, hR k c d] at e; exact e)⟩
theorem Tp.real {s : Int → Int} {h : Nat} {m v : Int} {j : Nat} (m9 : m ≤ 9) (hj : j < h) (h43 : h ≤ 43) {Pr : Int → Int → Prop} {n : Int} {R Y Z : Int → Int} (T : Tp (nw s h m v j) (fw s h m v j) (wo s (h - 1 - j)) (m.toNat + 1) (m * sumW s (h - 1 - j)) Pr n R Y Z) (hp : ∀ (c : Nat) r, c < m.toNat + 1 → Pr c r → fw s h m v j (r + c * wo s (h - 1 - j)) < 1000000) : ∀ i : Int, 0 ≤ i → i < n → fw s h m v (j + 1) (R i) < 1000000 := by
  intro i a b
  obtain ⟨g1, ⟨c, c1, c2⟩, _, _⟩ := T.2.1 i a b
  unfold fw
  rw [if_pos g1]
  have h1 := mn_at (g := fun c => fw s h m v j (R i + c * wo s (h - 1 - j)) + c) c1
  have h1' : mn (fun c => fw s h m v j (R i + c * wo s (h - 1 - j)) + c) (m.toNat + 1) ≤ fw s h m v j (R i + (c : Int) * wo s (h - 1 - j)) + (c : Int) := h1
  have h2 := hp c _ c1 c2
  have h3 := (fw_b (s := s) (h := h) (v := v) m9 j (R i + (c : Int) * wo s (h - 1 - j))).2.2 h2
  omega
theorem Tp.few {s : Int → Int} {n0 : Int} {h : Nat} (B : BOK s n0 h) {m v : Int} {j : Nat} (m1 : 1 ≤ m) (m9 : m ≤ 9) (v0 : 0 ≤ v) (v1 : v ≤ 1000000000) (hj : j < h) {Pr : Int → Int → Prop} {n : Int} {R Y Z : Int → Int} (T : Tp (nw s h m v j) (fw s h m v j) (wo s (h - 1 - j)) (m.toNat + 1) (m * sumW s (h - 1 - j)) Pr n R Y Z) (hp : ∀ (c : Nat) r, c < m.toNat + 1 → Pr c r → fw s h m v j (r + c * wo s (h - 1 - j)) < 1000000) : 0 ≤ n ∧ n ≤ 1216 := by
  have hr := T.real m9 hj B.h43 hp
  have t0 := T.1
  have := rests_few B m1 m9 v0 v1 (j := j + 1) (by omega) (n := n.toNat) (R := R) (fun i a b => hr i a (by omega)) (fun i k a b c d e => T.2.2.2 i k a (by omega) c (by omega) e)
  omega
theorem Tb.few {s : Int → Int} {n0 : Int} {h : Nat} (B : BOK s n0 h) {m v : Int} {j : Nat} (m1 : 1 ≤ m) (m9 : m ≤ 9) (v0 : 0 ≤ v) (v1 : v ≤ 1000000000) (hj : j ≤ h) {n : Int} {R Y Z : Int → Int} (T : Tb (nw s h m v j) (fw s h m v j) n R Y Z) : 0 ≤ n ∧ n ≤ 1216 := by
  have t0 := T.1
  have := rests_few B m1 m9 v0 v1 hj (n := n.toNat) (R := R) (fun i a b => (T.2.1 i a (by omega)).1) (fun i k a b c d e => T.2.2.2 i k a (by omega) c (by omega) e)
  omega
/-- rests are no more than v, none below 0 -/
theorem fw_r {s : Int → Int} {h : Nat} {m v : Int} (hs : ∀ k : Int, 0 ≤ k → 1 ≤ s k) (v0 : 0 ≤ v) (m0 : 0 ≤ m) : ∀ (j : Nat) (r : Int), fw s h m v j r < 1000000 → 0 ≤ r ∧ r ≤ v
  | 0, r, q => by
    unfold fw at q
    split at q <;> omega
  | j + 1, r, q => by
    unfold fw at q
    split at q
    · rename_i z
      obtain ⟨c, c1, c2⟩ := mn_ex q
      rw [← c2] at q
      have ih := fw_r (s := s) (h := h) hs v0 m0 j (r + (c : Int) * wo s (h - 1 - j)) (by omega)
      have := wo_pos hs (h - 1 - j)
      have := Int.mul_nonneg (show (0 : Int) ≤ (c : Int) by omega) (show 0 ≤ wo s (h - 1 - j) by omega)
      omega
    · omega
theorem Tp.done {s : Int → Int} {h : Nat} {m v : Int} {j : Nat} (m0 : 0 ≤ m) (m9 : m ≤ 9) (hj : j < h) (h43 : h ≤ 43) {Pr : Int → Int → Prop} {n : Int} {R Y Z : Int → Int} (T : Tp (nw s h m v j) (fw s h m v j) (wo s (h - 1 - j)) (m.toNat + 1) (m * sumW s (h - 1 - j)) Pr n R Y Z) (hp : ∀ (c : Nat) r, c < m.toNat + 1 → 0 ≤ r → r ≤ m * sumW s (h - 1 - j) → (Pr c r ↔ fw s h m v j (r + c * wo s (h - 1 - j)) < 1000000)) : Tb (nw s h m v (j + 1)) (fw s h m v (j + 1)) n R Y Z := by
  obtain ⟨t0, t1, t2, t3⟩ := T
  have eN : ∀ r, 0 ≤ r → r ≤ m * sumW s (h - 1 - j) → sm (gN (nw s h m v j) (wo s (h - 1 - j)) Pr r) (m.toNat + 1) = nw s h m v (j + 1) r := fun r r0 r1 => by
    have e : nw s h m v (j + 1) r = sm (fun c => nw s h m v j (r + c * wo s (h - 1 - j))) (m.toNat + 1) := if_pos ⟨r0, r1⟩
    rw [e]
    refine sm_congr (fun k hk => ?_)
    unfold gN
    by_cases q : Pr k r
    · rw [pit_pos q]
    · rw [pit_neg q]
      have := (hp k r hk r0 r1).mpr
      exact (nw_z m9 j _ (by omega) h43 (Int.not_lt.mp (fun z => q (this z)))).symm
  have eF : ∀ r, 0 ≤ r → r ≤ m * sumW s (h - 1 - j) → mn (gF (fw s h m v j) (wo s (h - 1 - j)) Pr r) (m.toNat + 1) = fw s h m v (j + 1) r := fun r r0 r1 => by
    have e : fw s h m v (j + 1) r = mn (fun c => fw s h m v j (r + c * wo s (h - 1 - j)) + c) (m.toNat + 1) := if_pos ⟨r0, r1⟩
    rw [e]
    refine mn_congr (fun k hk => ?_)
    unfold gF
    by_cases q : Pr k r
    · rw [pit_pos q]; exact Or.inl rfl
    · rw [pit_neg q]
      have := (hp k r hk r0 r1).mpr
      have g := Int.not_lt.mp (fun z => q (this z))
      exact Or.inr ⟨Int.le_refl _, by show 1000000 ≤ fw s h m v j (r + (k : Int) * wo s (h - 1 - j)) + (k : Int); omega⟩
  refine ⟨t0, fun i a b => ?_, fun r q => ?_, t3⟩
  · obtain ⟨g1, ⟨c, c1, c2⟩, g3, g4⟩ := t1 i a b
    rw [g3, g4, eN _ g1.1 g1.2, eF _ g1.1 g1.2]
    refine ⟨?_, rfl, rfl⟩
    unfold fw
    rw [if_pos g1]
    have h1 := mn_at (g := fun c => fw s h m v j (R i + c * wo s (h - 1 - j)) + c) c1
    have h1' : mn (fun c => fw s h m v j (R i + c * wo s (h - 1 - j)) + c) (m.toNat + 1) ≤ fw s h m v j (R i + (c : Int) * wo s (h - 1 - j)) + (c : Int) := h1
    have h2 := (hp c _ c1 g1.1 g1.2).mp c2
    have h3 := (fw_b (s := s) (h := h) (v := v) m9 j (R i + (c : Int) * wo s (h - 1 - j))).2.2 h2
    omega
  · have q' := q
    unfold fw at q'
    split at q'
    · rename_i z
      obtain ⟨c, c1, c2⟩ := mn_ex q'
      rw [← c2] at q'
      exact t2 c r c1 ((hp c r c1 z.1 z.2).mpr (by omega)) z.1 z.2
    · omega
