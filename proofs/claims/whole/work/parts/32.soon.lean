/-! numerals in order: legal digits are the greedy ones; when a digit turns -/
theorem va_succ (s d : Int → Int) (n : Nat) : va s d (n + 1) = va s d n + d n * wo s n := by
  show sm (vf s d) n + vf s d n = _
  unfold vf
  rw [Int.toNat_natCast]; rfl
theorem va_add (s a b : Int → Int) : ∀ n : Nat, va s (fun j => a j + b j) n = va s a n + va s b n
  | 0 => rfl
  | n + 1 => by rw [va_succ, va_succ, va_succ, va_add s a b n, Int.add_mul]; omega
theorem va_congr {s a b : Int → Int} : ∀ {n : Nat}, (∀ k : Nat, k < n → a k = b k) → va s a n = va s b n
  | 0, _ => rfl
  | n + 1, h => by rw [va_succ, va_succ, va_congr (fun k hk => h k (by omega)), h n (by omega)]
theorem va_zero {s a : Int → Int} : ∀ {n : Nat}, (∀ k : Nat, k < n → a k = 0) → va s a n = 0
  | 0, _ => rfl
  | n + 1, h => by rw [va_succ, va_zero (fun k hk => h k (by omega)), h n (by omega), Int.zero_mul]; rfl
def tr (d : Int → Int) (m : Nat) (j : Int) : Int := if (m : Int) ≤ j then d j else 0
theorem va_tr (s d : Int → Int) (m : Nat) : ∀ h : Nat, m ≤ h → va s d h = va s (tr d m) h + va s d m
  | 0, hm => by rw [Nat.le_zero.mp hm]; rfl
  | h + 1, hm => by
    by_cases e : m = h + 1
    · rw [va_zero (a := tr d m) (fun k hk => if_neg (by omega)), e]; omega
    · rw [va_succ, va_succ, va_tr s d m h (by omega)]
      have : tr d m h = d h := if_pos (by omega)
      rw [this]; omega
theorem va_tr1 (s d : Int → Int) {m h : Nat} (hm : m < h) : va s (tr d m) h = va s (tr d (m + 1)) h + d m * wo s m := by
  have h1 := va_tr s d m h (by omega)
  have h2 := va_tr s d (m + 1) h (by omega)
  rw [va_succ] at h2
  omega
def one (k : Nat) (j : Int) : Int := if j = (k : Int) then 1 else 0
theorem va_one (s : Int → Int) (k : Nat) : ∀ h : Nat, k < h → va s (one k) h = wo s k
  | 0, hk => by omega
  | h + 1, hk => by
    rw [va_succ]
    by_cases e : k = h
    · subst e
      have : one k (k : Int) = 1 := if_pos rfl
      rw [va_zero (fun j hj => if_neg (by omega)), this]; omega
    · have : one k (h : Int) = 0 := if_neg (by omega)
      rw [va_one s k h (by omega), this, Int.zero_mul]; omega
def LG (s : Int → Int) (h : Nat) (d : Int → Int) : Prop := (∀ k : Int, 0 ≤ k → k < h → 0 ≤ d k) ∧ LEG s h d
theorem lg_lt {s d : Int → Int} {h : Nat} (hs : ∀ k : Int, 0 ≤ k → 1 ≤ s k) (L : LG s h d) : ∀ j : Nat, (j ≤ h → 0 ≤ va s d j ∧ va s d j < wo s j) ∧ (j + 1 ≤ h → 0 ≤ va s d (j + 1) ∧ va s d (j + 1) < wo s (j + 1))
  | 0 => by
    refine ⟨fun _ => ⟨Int.le_refl _, by show (0 : Int) < 1; omega⟩, fun h1 => ?_⟩
    have a := L.1 0 (by omega) (by omega)
    have b := (L.2 0 (by omega) (by omega)).1
    rw [va_succ]
    show 0 ≤ (0 : Int) + d 0 * 1 ∧ (0 : Int) + d 0 * 1 < s 0 + 1
    omega
  | j + 1 => by
    have ih := lg_lt hs L j
    refine ⟨ih.2, fun h1 => ?_⟩
    have i1 := ih.1 (by omega)
    have i2 := ih.2 (by omega)
    have a := L.1 ((j + 1 : Nat) : Int) (by omega) (by omega)
    have b := L.2 ((j + 1 : Nat) : Int) (by omega) (by omega)
    have w1 := wo_pos hs (j + 1)
    have w0 := wo_pos hs j
    have e : wo s (j + 2) = s ((j : Int) + 1) * wo s (j + 1) + wo s j := rfl
    rw [show ((j : Int) + 1) = ((j + 1 : Nat) : Int) by omega] at e
    rw [va_succ, e]
    have g1 := Int.mul_nonneg a (show 0 ≤ wo s (j + 1) by omega)
    refine ⟨by omega, ?_⟩
    by_cases q : d ((j + 1 : Nat) : Int) = s ((j + 1 : Nat) : Int)
    · have z := b.2 q (by omega)
      rw [show ((j + 1 : Nat) : Int) - 1 = (j : Int) by omega] at z
      rw [q, va_succ, z, Int.zero_mul]
      omega
    · have g2 : (d ((j + 1 : Nat) : Int) + 1) * wo s (j + 1) ≤ s ((j + 1 : Nat) : Int) * wo s (j + 1) := Int.mul_le_mul_of_nonneg_right (by omega) (by omega)
      rw [Int.add_mul] at g2
      omega
theorem lg_rs {s d : Int → Int} {h : Nat} (hs : ∀ k : Int, 0 ≤ k → 1 ≤ s k) (L : LG s h d) : ∀ j : Nat, j ≤ h → rs s h (va s d h) j = va s d (h - j)
  | 0, _ => rfl
  | j + 1, hj => by
    show rs s h (va s d h) j % wo s (h - 1 - j) = _
    rw [lg_rs hs L j (by omega), show h - j = (h - 1 - j) + 1 by omega, va_succ, show h - (j + 1) = h - 1 - j by omega]
    have := (lg_lt hs L (h - 1 - j)).1 (by omega)
    rw [Int.add_mul_emod_self_right]
    exact Int.emod_eq_of_lt this.1 this.2
/-- legal digits are the greedy digits of their value -/
theorem lg_gd {s d : Int → Int} {h : Nat} (hs : ∀ k : Int, 0 ≤ k → 1 ≤ s k) (L : LG s h d) {k : Nat} (hk : k < h) : gd s h (va s d h) k = d k := by
  unfold gd
  rw [if_pos (by omega), Int.toNat_natCast, lg_rs hs L (h - 1 - k) (by omega), show h - (h - 1 - k) = k + 1 by omega, va_succ]
  have := (lg_lt hs L k).1 (by omega)
  have w := wo_pos hs k
  rw [Int.add_mul_ediv_right _ _ (by omega), Int.ediv_eq_zero_of_lt this.1 this.2]; omega
theorem gd_rs {s : Int → Int} {h : Nat} {v : Int} {k : Nat} (hk : k < h) : gd s h v k = rs s h v (h - 1 - k) / wo s k := by
  unfold gd
  rw [if_pos (by omega), Int.toNat_natCast]
/-- the greedy digits of a number make it, and are legal -/
theorem gd_LG {s : Int → Int} {n : Int} {h : Nat} (B : BOK s n h) {v : Int} (v0 : 0 ≤ v) (v1 : v < wo s h) : LG s h (gd s h v) := by
  have hs := B.s1
  refine ⟨fun k k0 _ => (gd_le B v0 v1 k k0).1, fun k k0 k1 => ⟨(gd_le B v0 v1 k k0).2, fun q kp => ?_⟩⟩
  obtain ⟨j, rfl⟩ : ∃ j : Nat, k = ((j + 1 : Nat) : Int) := ⟨k.toNat - 1, by omega⟩
  rw [show ((j + 1 : Nat) : Int) - 1 = (j : Int) by omega, gd_rs (by omega)]
  rw [gd_rs (by omega)] at q
  have r0 := rs_nonneg hs (h := h) v0 (h - 1 - (j + 1))
  have r1 := rs_lt hs v1 (h - 1 - (j + 1)) (by omega)
  rw [show h - (h - 1 - (j + 1)) = j + 2 by omega] at r1
  have e : wo s (j + 2) = s ((j : Int) + 1) * wo s (j + 1) + wo s j := rfl
  rw [show ((j : Int) + 1) = ((j + 1 : Nat) : Int) by omega] at e
  have e2 : rs s h v (h - 1 - j) = rs s h v (h - 1 - (j + 1)) % wo s (j + 1) := by
    rw [show h - 1 - j = (h - 1 - (j + 1)) + 1 by omega]
    show rs s h v (h - 1 - (j + 1)) % wo s (h - 1 - (h - 1 - (j + 1))) = _
    rw [show h - 1 - (h - 1 - (j + 1)) = j + 1 by omega]
  have e3 : rs s h v (h - 1 - (j + 1)) % wo s (j + 1) = rs s h v (h - 1 - (j + 1)) - wo s (j + 1) * (rs s h v (h - 1 - (j + 1)) / wo s (j + 1)) := Int.emod_def _ _
  rw [q] at e3
  have w1 := wo_pos hs (j + 1)
  have g := Int.emod_nonneg (rs s h v (h - 1 - (j + 1))) (show wo s (j + 1) ≠ 0 by omega)
  rw [Int.mul_comm] at e3
  rw [e2]
  exact Int.ediv_eq_zero_of_lt g (by omega)
theorem gd_va {s : Int → Int} {h : Nat} (hs : ∀ k : Int, 0 ≤ k → 1 ≤ s k) {v : Int} (v0 : 0 ≤ v) (v1 : v < wo s h) : va s (gd s h v) h = v := by
  have st : ∀ j : Nat, j ≤ h → va s (gd s h v) h + rs s h v j = va s (gd s h v) (h - j) + v := by
    intro j
    induction j with
    | zero => intro _; rfl
    | succ j ih =>
      intro hj
      have h1 := ih (by omega)
      have e : h - j = (h - (j + 1)) + 1 := by omega
      rw [e, va_succ, gd_rs (by omega), show h - 1 - (h - (j + 1)) = j by omega] at h1
      have e2 : rs s h v (j + 1) = rs s h v j % wo s (h - (j + 1)) := by
        show rs s h v j % wo s (h - 1 - j) = _
        rw [show h - 1 - j = h - (j + 1) by omega]
      have e3 := Int.emod_def (rs s h v j) (wo s (h - (j + 1)))
      rw [Int.mul_comm] at e3
      omega
  have h1 := st h (Nat.le_refl _)
  rw [Nat.sub_self] at h1
  have h2 : va s (gd s h v) 0 = 0 := rfl
  have r0 := rs_nonneg hs (h := h) v0 h
  have r1 := rs_lt hs v1 h (Nat.le_refl _)
  rw [Nat.sub_self] at r1
  have : wo s 0 = 1 := rfl
  omega
theorem gd_small {s : Int → Int} {h : Nat} (hs : ∀ k : Int, 0 ≤ k → 1 ≤ s k) {y : Int} (y0 : 0 ≤ y) {m k : Nat} (hy : y < wo s m) (hk : m ≤ k) : gd s h y k = 0 := by
  unfold gd
  split
  · rw [Int.toNat_natCast]
    have r0 := rs_nonneg hs (h := h) y0 (h - 1 - k)
    have r1 := rs_le hs (h := h) y0 (h - 1 - k)
    have w := wo_mono hs hk
    exact Int.ediv_eq_zero_of_lt r0 (by omega)
  · rfl
/-- digits from m on, and a small number below -/
theorem gd_mix {s e : Int → Int} {n : Int} {h m : Nat} (B : BOK s n h) (L : LG s h e) (hm : m ≤ h) {y : Int} (y0 : 0 ≤ y) (y1 : y < wo s m) (y2 : m < h → e m = s m → 0 < m → y < wo s (m - 1)) {k : Nat} (hk : k < h) : va s (tr e m) h + y < wo s h ∧ gd s h (va s (tr e m) h + y) k = if m ≤ k then e k else gd s h y k := by
  have hs := B.s1
  have wm := wo_mono hs hm
  have G := gd_LG B y0 (show y < wo s h by omega)
  have LM : LG s h (fun j => tr e m j + gd s h y j) := by
    refine ⟨fun j j0 j1 => ?_, fun j j0 j1 => ?_⟩
    · have g := G.1 j j0 j1
      have g2 := L.1 j j0 j1
      show 0 ≤ tr e m j + gd s h y j
      unfold tr
      split <;> omega
    · obtain ⟨i, rfl⟩ : ∃ i : Nat, j = (i : Int) := ⟨j.toNat, by omega⟩
      have l := L.2 i j0 j1
      have g := G.2 i j0 j1
      show tr e m i + gd s h y i ≤ s i ∧ (tr e m i + gd s h y i = s i → 0 < (i : Int) → tr e m ((i : Int) - 1) + gd s h y ((i : Int) - 1) = 0)
      by_cases q : m ≤ i
      · have e1 : tr e m i = e i := if_pos (by omega)
        have e2 : gd s h y i = 0 := gd_small hs y0 y1 q
        rw [e1, e2]
        refine ⟨by omega, fun q2 ip => ?_⟩
        obtain ⟨i', rfl⟩ : ∃ i' : Nat, i = i' + 1 := ⟨i - 1, by omega⟩
        rw [show ((i' + 1 : Nat) : Int) - 1 = (i' : Int) by omega] at l ⊢
        by_cases q3 : m ≤ i'
        · have e3 : tr e m i' = e i' := if_pos (by omega)
          have e4 : gd s h y i' = 0 := gd_small hs y0 y1 q3
          rw [e3, e4]
          have := l.2 (by omega) ip
          omega
        · have e3 : tr e m i' = 0 := if_neg (by omega)
          have em : m = i' + 1 := by omega
          have e4 : gd s h y i' = 0 := gd_small hs y0 (m := i') (by
            have := y2 (by omega) (by rw [em]; omega) (by omega)
            rw [em] at this
            exact this) (Nat.le_refl _)
          rw [e3, e4]; rfl
      · have e1 : tr e m i = 0 := if_neg (by omega)
        have e3 : tr e m ((i : Int) - 1) = 0 := if_neg (by omega)
        rw [e1, e3]
        refine ⟨by omega, fun q2 ip => ?_⟩
        have := g.2 (by omega) ip
        omega
  have ev : va s (fun j => tr e m j + gd s h y j) h = va s (tr e m) h + y := by
    rw [va_add, gd_va hs y0 (by omega)]
  have lt := ((lg_lt hs LM h).1 (Nat.le_refl _)).2
  have gg := lg_gd hs LM hk
  rw [ev] at lt gg
  refine ⟨lt, ?_⟩
  rw [gg]
  by_cases q : m ≤ k
  · have e1 : tr e m k = e k := if_pos (by omega)
    have e2 : gd s h y k = 0 := gd_small hs y0 y1 q
    rw [e1, e2, if_pos q]; omega
  · have e1 : tr e m k = 0 := if_neg (by omega)
    rw [e1, if_neg q]; omega
/-- one worth more at a place above which there's room: digits below stay 0 -/
theorem lg_up {s : Int → Int} {n : Int} {h : Nat} (B : BOK s n h) : ∀ (f m : Nat) (e : Int → Int), m + f = h → LG s h e → (∀ j : Int, 0 ≤ j → j < m → e j = 0) → (m < h → e m < s m) → va s e h + wo s m < wo s h → ∃ e' : Int → Int, LG s h e' ∧ (∀ j : Int, 0 ≤ j → j < m → e' j = 0) ∧ va s e' h = va s e h + wo s m
  | f, m, e, hf, L, hz, hm, hv => by
    have hs := B.s1
    have nn := ((lg_lt hs L h).1 (Nat.le_refl _)).1
    have mh : m < h := by
      rcases Nat.lt_or_ge m h with q | q
      · exact q
      · have : m = h := by omega
        rw [this] at hv; omega
    have em := hm mh
    by_cases q : m + 1 < h ∧ e ((m + 1 : Nat) : Int) = s ((m + 1 : Nat) : Int)
    · -- the place above is full: one more two above
      have l1 := L.2 ((m + 1 : Nat) : Int) (by omega) (by omega)
      have e0 := l1.2 q.2 (by omega)
      rw [show ((m + 1 : Nat) : Int) - 1 = (m : Int) by omega] at e0
      have T : LG s h (tr e (m + 2)) := by
        refine ⟨fun j j0 j1 => ?_, fun j j0 j1 => ?_⟩
        · have := L.1 j j0 j1
          unfold tr; split <;> omega
        · have l := L.2 j j0 j1
          unfold tr
          by_cases z : ((m + 2 : Nat) : Int) ≤ j
          · rw [if_pos z]
            refine ⟨l.1, fun q2 jp => ?_⟩
            by_cases z2 : ((m + 2 : Nat) : Int) ≤ j - 1
            · rw [if_pos z2]; exact l.2 q2 jp
            · rw [if_neg z2]
          · rw [if_neg z]
            have := hs j j0
            exact ⟨by omega, fun q2 _ => by omega⟩
      have ve : va s e h = va s (tr e (m + 2)) h + s ((m + 1 : Nat) : Int) * wo s (m + 1) := by
        have h1 := va_tr s e (m + 2) h (by omega)
        have hz0 : va s e m = 0 := va_zero (fun k hk => hz k (by omega) (by omega))
        rw [va_succ, va_succ, hz0, e0, q.2, Int.zero_mul] at h1
        omega
      have ew : wo s (m + 2) = s ((m + 1 : Nat) : Int) * wo s (m + 1) + wo s m := by
        show s ((m : Int) + 1) * wo s (m + 1) + wo s m = _
        rw [show ((m : Int) + 1) = ((m + 1 : Nat) : Int) by omega]
      have hm2 : m + 2 < h → tr e (m + 2) ((m + 2 : Nat) : Int) < s ((m + 2 : Nat) : Int) := fun z => by
        have e3 : tr e (m + 2) ((m + 2 : Nat) : Int) = e ((m + 2 : Nat) : Int) := if_pos (Int.le_refl _)
        rw [e3]
        have l := L.2 ((m + 2 : Nat) : Int) (by omega) (by omega)
        rcases Int.lt_or_eq_of_le l.1 with w | w
        · exact w
        · have := l.2 w (by omega)
          rw [show ((m + 2 : Nat) : Int) - 1 = ((m + 1 : Nat) : Int) by omega, q.2] at this
          have := hs ((m + 1 : Nat) : Int) (by omega)
          omega
      obtain ⟨e', p1, p2, p3⟩ := lg_up B (f - 2) (m + 2) (tr e (m + 2)) (by omega) T (fun j j0 j1 => if_neg (by omega)) hm2 (by omega)
      exact ⟨e', p1, fun j j0 j1 => p2 j j0 (by omega), by omega⟩
    · -- there's room at this place
      refine ⟨fun j => e j + one m j, ⟨fun j j0 j1 => ?_, fun j j0 j1 => ?_⟩, fun j j0 j1 => ?_, ?_⟩
      · have := L.1 j j0 j1
        show 0 ≤ e j + one m j
        unfold one; split <;> omega
      · have l := L.2 j j0 j1
        show e j + one m j ≤ s j ∧ (e j + one m j = s j → 0 < j → e (j - 1) + one m (j - 1) = 0)
        unfold one
        by_cases z : j = m
        · rw [if_pos z, if_neg (by omega), z]
          exact ⟨by omega, fun _ jp => by rw [hz ((m : Int) - 1) (by omega) (by omega)]; rfl⟩
        · rw [if_neg z]
          refine ⟨by omega, fun q2 jp => ?_⟩
          by_cases z2 : j - 1 = m
          · exfalso
            apply q
            have : j = ((m + 1 : Nat) : Int) := by omega
            rw [this] at q2 j1
            exact ⟨by omega, by omega⟩
          · rw [if_neg z2]
            have := l.2 (by omega) jp
            omega
      · show e j + one m j = 0
        unfold one
        rw [if_neg (by omega), hz j j0 j1]; rfl
      · rw [va_add, va_one s m h mh]
  termination_by f => f
/-- how far on digit k of legal digits turns, were there no greatest number -/
def tA (s d : Int → Int) (h : Nat) (k : Nat) : Int := (if 0 < k ∧ d k = s k then wo s (k - 1) else wo s k) - va s d k + (if d k = 0 ∧ k + 1 < h ∧ d ((k + 1 : Nat) : Int) = s ((k + 1 : Nat) : Int) then wo s k else 0)
theorem tr_LG {s d : Int → Int} {h : Nat} (hs : ∀ k : Int, 0 ≤ k → 1 ≤ s k) (L : LG s h d) (m : Nat) : LG s h (tr d m) := by
  refine ⟨fun j j0 j1 => ?_, fun j j0 j1 => ?_⟩
  · have := L.1 j j0 j1
    unfold tr; split <;> omega
  · have l := L.2 j j0 j1
    unfold tr
    by_cases z : (m : Int) ≤ j
    · rw [if_pos z]
      refine ⟨l.1, fun q2 jp => ?_⟩
      by_cases z2 : (m : Int) ≤ j - 1
      · rw [if_pos z2]; exact l.2 q2 jp
      · rw [if_neg z2]
    · rw [if_neg z]
      have := hs j j0
      exact ⟨by omega, fun q2 _ => by omega⟩
theorem tr_tr (d : Int → Int) (m : Nat) : tr (tr d m) m = tr d m := by
  funext j
  unfold tr
  split <;> rfl
theorem turn_spec {s d : Int → Int} {n : Int} {h : Nat} (B : BOK s n h) (L : LG s h d) {k : Nat} (hk : k < h) : 1 ≤ tA s d h k ∧ (∀ t : Int, 1 ≤ t → t < tA s d h k → va s d h + t < wo s h → gd s h (va s d h + t) k = d k) ∧ (va s d h + tA s d h k < wo s h → gd s h (va s d h + tA s d h k) k ≠ d k) := by
  have hs := B.s1
  have wk := wo_pos hs k
  have lk := (lg_lt hs L k).1 (by omega)
  have dk0 := L.1 k (by omega) (by omega)
  have ld := L.2 k (by omega) (by omega)
  have sk := hs k (by omega)
  have ev := va_tr s d k h (by omega)
  -- the room below place k
  have room : va s d k < (if 0 < k ∧ d k = s k then wo s (k - 1) else wo s k) := by
    split
    · rename_i q
      obtain ⟨j, rfl⟩ : ∃ j, k = j + 1 := ⟨k - 1, by omega⟩
      have z := ld.2 q.2 (by omega)
      rw [show ((j + 1 : Nat) : Int) - 1 = (j : Int) by omega] at z
      rw [va_succ, z, Int.zero_mul]
      have := ((lg_lt hs L j).1 (by omega)).2
      simp; omega
    · exact lk.2
  have roomle : (if 0 < k ∧ d k = s k then wo s (k - 1) else wo s k) ≤ wo s k := by
    split
    · exact wo_mono hs (by omega)
    · exact Int.le_refl _
  have first : ∀ y : Int, 0 ≤ y → y < (if 0 < k ∧ d k = s k then wo s (k - 1) else wo s k) → gd s h (va s (tr d k) h + y) k = d k := fun y y0 y1 => by
    have := (gd_mix B L (m := k) (by omega) y0 (by omega) (fun _ q kp => by rw [if_pos ⟨kp, q⟩] at y1; exact y1) hk).2
    rw [if_pos (Nat.le_refl _)] at this
    exact this
  by_cases st : d k = 0 ∧ k + 1 < h ∧ d ((k + 1 : Nat) : Int) = s ((k + 1 : Nat) : Int)
  · -- it stays once
    have e0 : (if 0 < k ∧ d k = s k then wo s (k - 1) else wo s k) = wo s k := if_neg (by omega)
    have eA : tA s d h k = wo s k - va s d k + wo s k := by unfold tA; rw [e0, if_pos st]
    rw [e0] at first
    have ve : va s (tr d k) h + wo s k = va s (tr d (k + 2)) h + wo s (k + 2) := by
      have t2 : va s (tr d (k + 1)) h = va s (tr d (k + 2)) h + d ((k + 1 : Nat) : Int) * wo s (k + 1) := va_tr1 s d (show k + 1 < h by omega)
      rw [va_tr1 s d (show k < h by omega), t2, st.1, st.2.2, Int.zero_mul]
      show _ = va s (tr d (k + 2)) h + (s ((k : Int) + 1) * wo s (k + 1) + wo s k)
      rw [show ((k : Int) + 1) = ((k + 1 : Nat) : Int) by omega]
      omega
    have second : ∀ y : Int, 0 ≤ y → y ≤ wo s k → va s (tr d k) h + wo s k + y < wo s h → gd s h (va s (tr d k) h + wo s k + y) k = gd s h y k := fun y y0 y1 y2 => by
      have k2 : k + 2 ≤ h := by omega
      obtain ⟨e', p1, p2, p3⟩ := lg_up B (h - (k + 2)) (k + 2) (tr d (k + 2)) (by omega) (tr_LG hs L _) (fun j j0 j1 => if_neg (by omega)) (fun z => by
        have e3 : tr d (k + 2) ((k + 2 : Nat) : Int) = d ((k + 2 : Nat) : Int) := if_pos (Int.le_refl _)
        rw [e3]
        have l := L.2 ((k + 2 : Nat) : Int) (by omega) (by omega)
        rcases Int.lt_or_eq_of_le l.1 with w | w
        · exact w
        · have := l.2 w (by omega)
          rw [show ((k + 2 : Nat) : Int) - 1 = ((k + 1 : Nat) : Int) by omega, st.2.2] at this
          have := hs ((k + 1 : Nat) : Int) (by omega)
          omega) (by omega)
      have et : va s (tr e' (k + 2)) h = va s e' h := va_congr (fun j hj => by
        unfold tr
        by_cases z : ((k + 2 : Nat) : Int) ≤ (j : Int)
        · rw [if_pos z]
        · rw [if_neg z, p2 j (by omega) (by omega)])
      have w1 := wo_lt hs k
      have w2 := wo_mono hs (show k + 1 ≤ k + 2 by omega)
      have := (gd_mix B p1 (m := k + 2) k2 y0 (by omega) (fun _ _ _ => by show y < wo s (k + 1); omega) hk).2
      rw [if_neg (by omega), et, p3, ← ve] at this
      exact this
    rw [eA]
    refine ⟨by omega, fun t t1 t2 t3 => ?_, fun t3 => ?_⟩
    · rw [ev] at t3 ⊢
      by_cases q : va s d k + t < wo s k
      · rw [show va s (tr d k) h + va s d k + t = va s (tr d k) h + (va s d k + t) by omega]
        exact first _ (by omega) q
      · have := second (va s d k + t - wo s k) (by omega) (by omega) (by omega)
        rw [show va s (tr d k) h + wo s k + (va s d k + t - wo s k) = va s (tr d k) h + va s d k + t by omega] at this
        rw [this, gd_small hs (by omega) (m := k) (by omega) (Nat.le_refl _), st.1]
    · rw [ev] at t3 ⊢
      have := second (wo s k) (by omega) (Int.le_refl _) (by omega)
      rw [show va s (tr d k) h + wo s k + wo s k = va s (tr d k) h + va s d k + (wo s k - va s d k + wo s k) by omega] at this
      rw [this, st.1]
      have Lo : LG s h (one k) := by
        refine ⟨fun j j0 j1 => by unfold one; split <;> omega, fun j j0 j1 => ?_⟩
        have sj := hs j j0
        unfold one
        by_cases z : j = k
        · rw [if_pos z, if_neg (by omega)]; exact ⟨by omega, fun _ _ => rfl⟩
        · rw [if_neg z]; exact ⟨by omega, fun q _ => by omega⟩
      have g := lg_gd hs Lo hk
      rw [va_one s k h hk] at g
      have g1 : one k (k : Int) = 1 := if_pos rfl
      rw [g, g1]; omega
  · have eA : tA s d h k = (if 0 < k ∧ d k = s k then wo s (k - 1) else wo s k) - va s d k := by unfold tA; rw [if_neg st]; omega
    rw [eA]
    refine ⟨by omega, fun t t1 t2 t3 => ?_, fun t3 => ?_⟩
    · rw [ev, show va s (tr d k) h + va s d k + t = va s (tr d k) h + (va s d k + t) by omega]
      exact first _ (by omega) (by omega)
    · rw [ev] at t3 ⊢
      rw [show va s (tr d k) h + va s d k + ((if 0 < k ∧ d k = s k then wo s (k - 1) else wo s k) - va s d k) = va s (tr d k) h + (if 0 < k ∧ d k = s k then wo s (k - 1) else wo s k) by omega] at t3 ⊢
      by_cases q : d k = s k
      · -- it's whole: 0 next
        have ew : va s (tr d k) h + (if 0 < k ∧ d k = s k then wo s (k - 1) else wo s k) = va s (tr d (k + 1)) h + wo s (k + 1) := by
          rw [va_tr1 s d hk, q]
          rcases Nat.eq_zero_or_pos k with z | z
          · subst z
            rw [if_neg (by omega)]
            show va s (tr d 1) h + s 0 * 1 + 1 = va s (tr d 1) h + (s 0 + 1)
            omega
          · rw [if_pos ⟨z, rfl⟩, wo_step k z]; omega
        rw [ew] at t3 ⊢
        have k1 : k + 1 < h := by
          rcases Nat.lt_or_ge (k + 1) h with z | z
          · exact z
          · have e : k + 1 = h := by omega
            rw [e, va_zero (fun j hj => if_neg (by omega))] at t3
            omega
        obtain ⟨e', p1, p2, p3⟩ := lg_up B (h - (k + 1)) (k + 1) (tr d (k + 1)) (by omega) (tr_LG hs L _) (fun j j0 j1 => if_neg (by omega)) (fun z => by
          have e3 : tr d (k + 1) ((k + 1 : Nat) : Int) = d ((k + 1 : Nat) : Int) := if_pos (Int.le_refl _)
          rw [e3]
          have l := L.2 ((k + 1 : Nat) : Int) (by omega) (by omega)
          rcases Int.lt_or_eq_of_le l.1 with w | w
          · exact w
          · have := l.2 w (by omega)
            rw [show ((k + 1 : Nat) : Int) - 1 = (k : Int) by omega] at this
            omega) (by omega)
        have g := lg_gd hs p1 hk
        rw [p3, p2 k (by omega) (by omega)] at g
        rw [g]; omega
      · -- one more
        have ew : (if 0 < k ∧ d k = s k then wo s (k - 1) else wo s k) = wo s k := if_neg (fun z => q z.2)
        rw [ew]
        have Lo : LG s h (fun j => tr d k j + one k j) := by
          have T := tr_LG hs L k
          refine ⟨fun j j0 j1 => ?_, fun j j0 j1 => ?_⟩
          · have := T.1 j j0 j1
            show 0 ≤ tr d k j + one k j
            unfold one; split <;> omega
          · have l := T.2 j j0 j1
            show tr d k j + one k j ≤ s j ∧ (tr d k j + one k j = s j → 0 < j → tr d k (j - 1) + one k (j - 1) = 0)
            unfold one
            by_cases z : j = k
            · have e1 : tr d k j = d j := if_pos (by omega)
              have e2 : tr d k (j - 1) = 0 := if_neg (by omega)
              rw [if_pos z, if_neg (by omega), e1, e2, z]
              exact ⟨by omega, fun _ _ => rfl⟩
            · rw [if_neg z]
              refine ⟨by omega, fun q2 jp => ?_⟩
              by_cases z2 : j - 1 = k
              · exfalso
                have ej : j = ((k + 1 : Nat) : Int) := by omega
                have e1 : tr d k j = d j := if_pos (by omega)
                rw [e1, ej] at q2
                have l2 := L.2 ((k + 1 : Nat) : Int) (by omega) (by omega)
                have := l2.2 (by omega) (by omega)
                rw [show ((k + 1 : Nat) : Int) - 1 = (k : Int) by omega] at this
                exact st ⟨this, by omega, by omega⟩
              · rw [if_neg z2]
                have := l.2 (by omega) jp
                omega
        have g := lg_gd hs Lo hk
        rw [va_add, va_one s k h hk] at g
        have e1 : tr d k (k : Int) = d k := if_pos (Int.le_refl _)
        have e2 : one k (k : Int) = 1 := if_pos rfl
        rw [g, e1, e2]; omega
