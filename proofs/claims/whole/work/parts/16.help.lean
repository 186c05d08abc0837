/-! the class's helpers: counting, copying, the deeds, long rows -/
/-- how many places below n are other than 0 -/
def ct (f : Int → Int) : Nat → Int
  | 0 => 0
  | n + 1 => ct f n + (if f n = 0 then 0 else 1)
theorem ct_i {f : Int → Int} {k : Int} (h : 0 ≤ k) : ct f (k + 1).toNat = ct f k.toNat + (if f k = 0 then 0 else 1) := by
  rw [show (k + 1).toNat = k.toNat + 1 by omega]
  show ct f k.toNat + (if f (k.toNat : Int) = 0 then 0 else 1) = _
  rw [Int.toNat_of_nonneg h]
theorem ct_b (f : Int → Int) : ∀ n : Nat, 0 ≤ ct f n ∧ ct f n ≤ n
  | 0 => by simp [ct]
  | n + 1 => by
    have := ct_b f n
    show 0 ≤ ct f n + (if f n = 0 then 0 else 1) ∧ ct f n + (if f n = 0 then 0 else 1) ≤ ((n + 1 : Nat) : Int)
    split <;> omega
theorem ct_congr {f g : Int → Int} : ∀ {n : Nat}, (∀ k : Nat, k < n → (f k = 0 ↔ g k = 0)) → ct f n = ct g n
  | 0, _ => rfl
  | n + 1, h => by
    show ct f n + (if f n = 0 then 0 else 1) = ct g n + (if g n = 0 then 0 else 1)
    rw [ct_congr (fun k hk => h k (by omega))]
    have := h n (by omega)
    by_cases q : f n = 0
    · rw [if_pos q, if_pos (this.mp q)]
    · rw [if_neg q, if_neg (fun z => q (this.mpr z))]
theorem ct_split {f : Int → Int} {m : Nat} : ∀ {n : Nat}, m ≤ n → (∀ k : Nat, m ≤ k → k < n → f k = 0) → ct f n = ct f m
  | 0, h, _ => by rw [Nat.le_zero.mp h]
  | n + 1, h, hz => by
    by_cases e : m = n + 1
    · rw [e]
    · show ct f n + (if f n = 0 then 0 else 1) = ct f m
      rw [ct_split (n := n) (by omega) (fun k h1 h2 => hz k h1 (by omega)), if_pos (hz n (by omega) (by omega))]; omega
/-- the highest place below n with one other than 0; -1 -/
def hg (f : Int → Int) : Nat → Int
  | 0 => -1
  | n + 1 => if f n = 0 then hg f n else n
theorem hg_b (f : Int → Int) : ∀ n : Nat, -1 ≤ hg f n ∧ hg f n < n
  | 0 => by simp [hg]
  | n + 1 => by
    have := hg_b f n
    show -1 ≤ (if f n = 0 then hg f n else (n : Int)) ∧ (if f n = 0 then hg f n else (n : Int)) < ((n + 1 : Nat) : Int)
    split <;> omega
theorem hg_split {f : Int → Int} {m : Nat} : ∀ {n : Nat}, m ≤ n → (∀ k : Nat, m ≤ k → k < n → f k = 0) → hg f n = hg f m
  | 0, h, _ => by rw [Nat.le_zero.mp h]
  | n + 1, h, hz => by
    by_cases e : m = n + 1
    · rw [e]
    · show (if f n = 0 then hg f n else (n : Int)) = hg f m
      rw [if_pos (hz n (by omega) (by omega)), hg_split (n := n) (by omega) (fun k h1 h2 => hz k h1 (by omega))]
theorem sp_countNotZero {a : Nat} (ha : shp a = (1, 0, 43)) {d : Int → Int} {σ : ASt} {Q : Int → ASt → Prop} (hd : CD σ a d) (hr : ∀ k : Int, 0 ≤ k → k < 43 → 0 ≤ d k ∧ d k ≤ 99) (hq : Q (ct d 43) σ) : EvI K_X7_countNotZero [.ref a] σ Q := by
  have lp : ∀ (m : Nat) (k : Int), 0 ≤ k → k + m = 43 → Wx K_X7_countNotZero (QI Q) 10 [(1, .int (iI (ct d k.toNat))), (2, .ref a), (3, .int (iI 43)), (4, .int (iI k))] [] σ := by
    intro m
    induction m with
    | zero =>
      intro k k0 hk
      have := ct_b d k.toNat
      refine bX7_countNotZero_10 ha (by omega) (by omega) (by omega) ⟨fun _ => ?_, fun q => by omega⟩
      rw [show k.toNat = 43 by omega]; exact hq
    | succ m ih =>
      intro k k0 hk
      have hb := ct_b d k.toNat
      have hdk := hr k k0 (by omega)
      have nx := ih (k + 1) (by omega) (by omega)
      rw [ct_i k0] at nx
      refine bX7_countNotZero_10 ha (by omega) (by omega) (by omega) ⟨fun q => by omega, fun _ => ⟨⟨k0, by omega⟩, ?_⟩⟩
      rw [hd k k0 (by omega)]
      refine ⟨by omega, fun q => ?_, fun q => ?_⟩
      · rw [if_pos q, Int.add_zero] at nx; exact nx
      · rw [if_neg q] at nx; exact nx
  exact eX7_countNotZero ha (lp 43 0 (by omega) (by omega))
theorem sp_countUnlike {a c : Nat} (ha : shp a = (1, 0, 43)) (hc : shp c = (1, 0, 43)) {d f : Int → Int} {σ : ASt} {Q : Int → ASt → Prop} (hd : CD σ a d) (hf : CD σ c f) (hr : ∀ k : Int, 0 ≤ k → k < 43 → 0 ≤ d k ∧ d k ≤ 99) (hr2 : ∀ k : Int, 0 ≤ k → k < 43 → 0 ≤ f k ∧ f k ≤ 99) (hq : Q (ct (fun k => d k - f k) 43) σ) : EvI K_X7_countUnlike [.ref a, .ref c] σ Q := by
  have lp : ∀ (m : Nat) (k : Int), 0 ≤ k → k + m = 43 → Wx K_X7_countUnlike (QI Q) 4 [(0, .ref a), (1, .ref c), (2, .int (iI (ct (fun k => d k - f k) k.toNat))), (3, .int (iI k))] [] σ := by
    intro m
    induction m with
    | zero =>
      intro k k0 hk
      have := ct_b (fun k => d k - f k) k.toNat
      refine bX7_countUnlike_4 ha hc (by omega) (by omega) ⟨fun _ => ?_, fun q => by omega⟩
      rw [show k.toNat = 43 by omega]; exact hq
    | succ m ih =>
      intro k k0 hk
      have hb := ct_b (fun k => d k - f k) k.toNat
      have hdk := hr k k0 (by omega)
      have hfk := hr2 k k0 (by omega)
      have nx := ih (k + 1) (by omega) (by omega)
      rw [ct_i k0] at nx
      refine bX7_countUnlike_4 ha hc (by omega) (by omega) ⟨fun q => by omega, fun _ => ⟨fun q => by omega, fun _ => ⟨⟨k0, by omega⟩, ?_⟩⟩⟩
      rw [hd k k0 (by omega), hf k k0 (by omega)]
      refine ⟨by omega, by omega, fun q => ?_, fun q => ?_⟩
      · rw [if_pos (by omega), Int.add_zero] at nx; exact nx
      · rw [if_neg (by omega)] at nx; exact nx
  exact eX7_countUnlike ha hc (lp 43 0 (by omega) (by omega))
theorem sp_highestNotZero {a : Nat} (ha : shp a = (1, 0, 43)) {d : Int → Int} {σ : ASt} {Q : Int → ASt → Prop} (hd : CD σ a d) (hr : ∀ k : Int, 0 ≤ k → k < 43 → 0 ≤ d k ∧ d k ≤ 99) (hq : Q (hg d 43) σ) : EvI K_X7_highestNotZero [.ref a] σ Q := by
  have lp : ∀ (m : Nat), m ≤ 43 → hg d 43 = hg d m → Wx K_X7_highestNotZero (QI Q) 5 [(0, .ref a), (1, .int (iI ((m : Int) - 1)))] [] σ := by
    intro m
    induction m with
    | zero =>
      intro _ hm
      refine bX7_highestNotZero_5 ha (by omega) ⟨fun _ => ?_, fun q => by omega⟩
      rw [hm] at hq; exact hq
    | succ m ih =>
      intro hm he
      have e1 : ((m + 1 : Nat) : Int) - 1 = (m : Int) := by omega
      have hdk := hr m (by omega) (by omega)
      rw [e1]
      refine bX7_highestNotZero_5 ha (by omega) ⟨fun q => by omega, fun _ => ⟨⟨by omega, by omega⟩, ?_⟩⟩
      rw [hd m (by omega) (by omega)]
      have he2 : hg d 43 = if d m = 0 then hg d m else (m : Int) := he
      refine ⟨by omega, fun q => ?_, fun q => ?_⟩
      · rw [if_pos q] at he2
        have := ih (by omega) he2
        rw [show (m : Int) + (-1) = (m : Int) - 1 by omega]
        exact this
      · rw [if_neg q] at he2
        rw [he2] at hq; exact hq
  exact eX7_highestNotZero ha (lp 43 (by omega) rfl)
theorem sp_copyDigits {a c : Nat} (ha : shp a = (1, 0, 43)) (hc : shp c = (1, 0, 43)) {d : Int → Int} {σ : ASt} {Q : ASt → Prop} (hd : CD σ a d) (hq : ∀ τ, Ag (fun b => b ≠ c) σ τ → CD τ c d → Q τ) : EvV K_X7_copyDigits [.ref a, .ref c] σ Q := by
  have e : (if (43 : Int) < 43 then (43 : Int) else 43) = 43 := by split <;> rfl
  refine eX7_copyDigits ha hc ?_
  rw [e]
  refine ⟨by omega, by omega, by omega, hq _ (ag_cI (fun _ q => q)) (fun k a b => ?_)⟩
  rw [gI_cI, if_pos (by omega), show (0 : Int) + (k - 0) = k by omega]
  exact hd k a b
theorem sp_addInto {a c e : Nat} (ha : shp a = (1, 0, 43)) (hc : shp c = (1, 0, 43)) (he : shp e = (1, 0, 43)) (n1 : c ≠ a) (n2 : e ≠ a) {d f : Int → Int} {h : Nat} (D : DOK d h) (E : DOK f h) (h43 : h ≤ 43) {σ : ASt} (hd : CD σ c d) (hf : CD σ e f) {QT QF : ASt → Prop} (hT : ∀ τ, (∀ k : Int, 0 ≤ k → k < h → d k + f k ≤ 99) → Ag (fun b => b ≠ a) σ τ → CD τ a (fun k => d k + f k) → QT τ) (hF : ∀ τ, (∃ k : Int, 0 ≤ k ∧ k < h ∧ 99 < d k + f k) → Ag (fun b => b ≠ a) σ τ → QF τ) : EvZ K_X7_addInto [.ref a, .ref c, .ref e] σ QT QF := by
  have lp : ∀ (m : Nat) (k : Int) (τ : ASt), 0 ≤ k → k + m = 43 → Ag (fun b => b ≠ a) σ τ → (∀ j : Int, 0 ≤ j → j < k → gI τ a j = d j + f j ∧ d j + f j ≤ 99) → Wx K_X7_addInto (QZ QT QF) 2 [(0, .ref a), (1, .ref c), (2, .ref e), (3, .int (iI k))] [] τ := by
    intro m
    induction m with
    | zero =>
      intro k τ k0 hk hA hj
      exact bX7_addInto_2 ha hc he (by omega) ⟨fun _ => hT τ (fun j a b => (hj j a (by omega)).2) hA (fun j a b => (hj j a (by omega)).1), fun q => by omega⟩
    | succ m ih =>
      intro k τ k0 hk hA hj
      have d1 := D.all k
      have d2 := E.all k
      have e1 : gI τ c k + gI τ e k = d k + f k := by rw [hA.I n1, hA.I n2, hd k k0 (by omega), hf k k0 (by omega)]
      refine bX7_addInto_2 ha hc he (by omega) ⟨fun q => by omega, fun _ => ⟨fun q => by omega, fun _ => ⟨fun q => by omega, fun _ => ⟨⟨k0, by omega⟩, ?_⟩⟩⟩⟩
      rw [gI_self, e1]
      have hA2 : Ag (fun b => b ≠ a) σ (sI τ a k (d k + f k)) := hA.trans (ag_sI (fun _ q => q))
      refine ⟨by omega, fun q => ih (k + 1) _ (by omega) (by omega) hA2 (fun j a b => ?_), fun q => hF _ ⟨k, k0, ?_, q⟩ hA2⟩
      · by_cases z : j = k
        · rw [z, gI_self]; exact ⟨rfl, q⟩
        · rw [gI_ne _ _ _ z]; exact hj j a (by omega)
      · rcases Int.lt_or_le k h with z | z
        · exact z
        · have x1 := D.2 k (Or.inr z)
          have x2 := E.2 k (Or.inr z)
          omega
  exact eX7_addInto ha hc he (lp 43 0 σ (by omega) (by omega) Ag.rf (fun j a b => by omega))
/-! deeds -/
/-- deed j: the reel, its digits ahead of it -/
def En (σ : ASt) (j : Int) (x : Int × (Int → Int)) : Prop := gI σ 12 j = x.1 ∧ ∀ k : Int, 0 ≤ k → k < 43 → gI σ 13 (j * 43 + k) = x.2 k
theorem En.ag {P : Nat → Prop} {σ τ : ASt} {j : Int} {x : Int × (Int → Int)} (H : Ag P σ τ) (h1 : P 12) (h2 : P 13) (E : En σ j x) : En τ j x := ⟨(H.I h1 j).trans E.1, fun k a b => (H.I h2 _).trans (E.2 k a b)⟩
def CL (σ : ASt) (L : List (Int × (Int → Int))) : Prop := gI σ 11 2 = L.length ∧ L.length ≤ 12 ∧ ∀ (j : Nat) (x : Int × (Int → Int)), L[j]? = some x → En σ j x
theorem CL.ag {P : Nat → Prop} {σ τ : ASt} {L : List (Int × (Int → Int))} (H : Ag P σ τ) (h0 : P 11) (h1 : P 12) (h2 : P 13) (C : CL σ L) : CL τ L := ⟨(H.I h0 2).trans C.1, C.2.1, fun j x hx => (C.2.2 j x hx).ag H h1 h2⟩
abbrev DP : Nat → Prop := fun b => b ≠ 11 ∧ b ≠ 12 ∧ b ≠ 13
theorem sp_move {a c : Int} {σ : ASt} {Q : ASt → Prop} (a0 : 0 ≤ a) (a1 : a < 12) (c0 : 0 ≤ c) (c1 : c < 12) (hq : ∀ τ, Ag (fun b => b ≠ 12 ∧ b ≠ 13) σ τ → (∀ x, En σ a x → En τ c x) → (∀ j x, 0 ≤ j → j ≠ c → En σ j x → En τ j x) → Q τ) : EvV K_X1_move [.ref 11, .int (iI a), .int (iI c)] σ Q := by
  refine eX1_move ⟨⟨a0, a1⟩, ⟨c0, c1⟩, by omega, by omega, by omega, by omega, ?_⟩
  refine hq _ ((ag_sI (fun b hb => hb.1)).trans (ag_cI (fun b hb => hb.2))) (fun x hx => ⟨?_, fun k k0 k1 => ?_⟩) (fun j x j0 jc hx => ⟨?_, fun k k0 k1 => ?_⟩)
  · rw [(ag_cI (P := fun b => b ≠ 13) (fun b hb => hb)).I (by omega), gI_self]; exact hx.1
  · rw [gI_cI, if_pos (by omega), gI_na _ _ _ _ (by omega), show a * 43 + (c * 43 + k - c * 43) = a * 43 + k by omega]; exact hx.2 k k0 k1
  · rw [(ag_cI (P := fun b => b ≠ 13) (fun b hb => hb)).I (by omega), gI_ne _ _ _ jc]; exact hx.1
  · rw [gI_cI, if_neg (by omega), gI_na _ _ _ _ (by omega)]; exact hx.2 k k0 k1
theorem sp_dropEldest {L : List (Int × (Int → Int))} {σ : ASt} {Q : ASt → Prop} (C : CL σ L) (h12 : L.length = 12) (hq : ∀ τ, Ag DP σ τ → CL τ L.tail → Q τ) : EvV K_X1_dropEldest [.ref 11] σ Q := by
  have lp : ∀ (m : Nat) (i : Nat) (τ : ASt), 1 ≤ i → i + m = 12 → Ag (fun b => b ≠ 12 ∧ b ≠ 13) σ τ → (∀ (j : Nat) x, j + 1 < i → L[j + 1]? = some x → En τ j x) → (∀ (j : Nat) x, i ≤ j → L[j]? = some x → En τ j x) → Wx K_X1_dropEldest (QV Q) 2 [(0, .ref 11), (1, .int (iI (i : Int)))] [] τ := by
    intro m
    induction m with
    | zero =>
      intro i τ i1 hi hA h1 h2
      refine bX1_dropEldest_2 (by omega) ⟨fun _ => hq _ ((hA.mono (fun b hb => hb.2)).trans (ag_sI (fun b hb => hb.1))) ⟨?_, by rw [List.length_tail]; omega, fun j x hx => ?_⟩, fun q => by omega⟩
      · rw [gI_self, List.length_tail]; omega
      · have hl := (List.getElem?_eq_some_iff.mp hx).1
        rw [List.length_tail] at hl
        rw [List.getElem?_tail] at hx
        exact (h1 j x (by omega) hx).ag (P := fun b => b ≠ 11) (ag_sI (fun _ q => q)) (by omega) (by omega)
    | succ m ih =>
      intro i τ i1 hi hA h1 h2
      refine bX1_dropEldest_2 (by omega) ⟨fun q => by omega, fun _ => ?_⟩
      refine sp_move (by omega) (by omega) (by omega) (by omega) (fun υ hA2 m1 m2 => ?_)
      have e : (i : Int) + 1 = ((i + 1 : Nat) : Int) := by omega
      rw [e]
      refine ih (i + 1) υ (by omega) (by omega) (hA.trans hA2) (fun j x hj hx => ?_) (fun j x hj hx => m2 j x (by omega) (by omega) (h2 j x (by omega) hx))
      by_cases z : j + 1 = i
      · have := m1 x (by rw [← z]; exact_mod_cast h2 (j + 1) x (by omega) hx)
        rw [show (i : Int) - 1 = (j : Int) by omega] at this
        exact this
      · exact m2 j x (by omega) (by omega) (h1 j x (by omega) hx)
  exact eX1_dropEldest (lp 11 1 σ (by omega) (by omega) Ag.rf (fun j x hj => by omega) (fun j x _ hx => C.2.2 j x hx))
/-- the list with one deed more: the eldest of twelve goes -/
def pushD (L : List (Int × (Int → Int))) (x : Int × (Int → Int)) : List (Int × (Int → Int)) := (if L.length < 12 then L else L.tail) ++ [x]
theorem keep_core {L : List (Int × (Int → Int))} {σ : ASt} (C : CL σ L) (hl : L.length < 12) {a : Nat} (n3 : a ≠ 12) {d : Int → Int} (hd : CD σ a d) (r : Int) : Ag DP σ (sI (cI (sI σ 12 (gI σ 11 2) r) a 13 0 ((gI (sI σ 12 (gI σ 11 2) r) 11 2) * 43) 43) 11 2 ((gI (cI (sI σ 12 (gI σ 11 2) r) a 13 0 ((gI (sI σ 12 (gI σ 11 2) r) 11 2) * 43) 43) 11 2) + 1)) ∧ CL (sI (cI (sI σ 12 (gI σ 11 2) r) a 13 0 ((gI (sI σ 12 (gI σ 11 2) r) 11 2) * 43) 43) 11 2 ((gI (cI (sI σ 12 (gI σ 11 2) r) a 13 0 ((gI (sI σ 12 (gI σ 11 2) r) 11 2) * 43) 43) 11 2) + 1)) (L ++ [(r, d)]) := by
  have e1 : gI (sI σ 12 (gI σ 11 2) r) 11 2 = L.length := by rw [gI_na _ _ _ _ (by omega)]; exact C.1
  have e2 : gI (cI (sI σ 12 (gI σ 11 2) r) a 13 0 ((L.length : Int) * 43) 43) 11 2 = L.length := by rw [(ag_cI (P := fun b => b ≠ 13) (fun b hb => hb)).I (by omega)]; exact e1
  rw [e1, e2]
  refine ⟨((ag_sI (fun b hb => hb.2.1)).trans (ag_cI (fun b hb => hb.2.2))).trans (ag_sI (fun b hb => hb.1)), ?_, by rw [List.length_append]; simp; omega, fun j x hx => ?_⟩
  · rw [gI_self, List.length_append]; simp
  · rw [C.1]
    by_cases hj : j < L.length
    · rw [List.getElem?_append_left hj] at hx
      have := C.2.2 j x hx
      refine ⟨?_, fun k k0 k1 => ?_⟩
      · rw [gI_na _ _ _ _ (by omega), (ag_cI (P := fun b => b ≠ 13) (fun b hb => hb)).I (by omega), gI_ne _ _ _ (by omega)]; exact this.1
      · rw [gI_na _ _ _ _ (by omega), gI_cI, if_neg (by omega), gI_na _ _ _ _ (by omega)]; exact this.2 k k0 k1
    · rw [List.getElem?_append_right (by omega)] at hx
      have hz : j - L.length = 0 := by
        have := (List.getElem?_eq_some_iff.mp hx).1
        simp at this; omega
      rw [hz] at hx
      cases hx
      have ej : j = L.length := by omega
      subst ej
      refine ⟨?_, fun k k0 k1 => ?_⟩
      · rw [gI_na _ _ _ _ (by omega), (ag_cI (P := fun b => b ≠ 13) (fun b hb => hb)).I (by omega), gI_self]
      · rw [gI_na _ _ _ _ (by omega), gI_cI, if_pos (by omega), gI_na _ _ _ _ n3, show (0 : Int) + ((L.length : Int) * 43 + k - (L.length : Int) * 43) = k by omega]; exact hd k k0 k1
theorem sp_keep {L : List (Int × (Int → Int))} {σ : ASt} {Q : ASt → Prop} (C : CL σ L) {a : Nat} (ha : shp a = (1, 0, 43)) {d : Int → Int} (hd : CD σ a d) {r : Int} (hq : ∀ τ, Ag DP σ τ → CL τ (pushD L (r, d)) → Q τ) : EvV K_X1_keep [.ref 11, .int (iI r), .ref a] σ Q := by
  have n2 : a ≠ 11 := fun q => by rw [q] at ha; cases ha
  have n3 : a ≠ 12 := fun q => by rw [q] at ha; cases ha
  have n4 : a ≠ 13 := fun q => by rw [q] at ha; cases ha
  have e : (if (43 : Int) < 43 then (43 : Int) else 43) = 43 := by split <;> rfl
  have l12 := C.2.1
  refine eX1_keep ha ⟨by rw [C.1]; omega, fun q => ?_, fun q => ?_⟩
  · rw [e]
    have hl : L.length < 12 := by rw [C.1] at q; omega
    have e1 : gI (sI σ 12 (gI σ 11 2) r) 11 2 = L.length := by rw [gI_na _ _ _ _ (by omega)]; exact C.1
    have := keep_core C hl n3 hd r
    refine ⟨⟨by rw [C.1]; omega, q⟩, by rw [e1]; omega, by omega, by omega, by rw [e1]; omega, hq _ this.1 ?_⟩
    unfold pushD
    rw [if_pos hl]; exact this.2
  · have hl : L.length = 12 := by rw [C.1] at q; omega
    refine sp_dropEldest C hl (fun τ hA C2 => ?_)
    have hl2 : L.tail.length < 12 := by rw [List.length_tail]; omega
    have hd2 : CD τ a d := hd.ag hA ⟨n2, n3, n4⟩
    rw [e]
    have e1 : gI (sI τ 12 (gI τ 11 2) r) 11 2 = L.tail.length := by rw [gI_na _ _ _ _ (by omega)]; exact C2.1
    have := keep_core C2 hl2 n3 hd2 r
    refine ⟨⟨by rw [C2.1]; omega, by rw [C2.1]; omega⟩, by rw [e1]; omega, by omega, by omega, by rw [e1]; omega, hq _ (hA.trans this.1) ?_⟩
    unfold pushD
    rw [if_neg (by omega)]; exact this.2
/-- the deeds without a reel's -/
def fgt (L : List (Int × (Int → Int))) (r : Int) : List (Int × (Int → Int)) := L.filter (fun x => decide (x.1 ≠ r))
theorem sp_forget {L : List (Int × (Int → Int))} {σ : ASt} {Q : ASt → Prop} (C : CL σ L) (hx : ∀ x ∈ L, i32 x.1) {r : Int} (hr : i32 r) (hq : ∀ τ, Ag DP σ τ → CL τ (fgt L r) → Q τ) : EvV K_X1_forget [.ref 11, .int (iI r)] σ Q := by
  have l12 := C.2.1
  have lp : ∀ (m : Nat) (i : Nat) (τ : ASt), i + m = L.length → Ag (fun b => b ≠ 12 ∧ b ≠ 13) σ τ → (∀ (j : Nat) x, (fgt (L.take i) r)[j]? = some x → En τ j x) → (∀ (j : Nat) x, i ≤ j → L[j]? = some x → En τ j x) → Wx K_X1_forget (QV Q) 4 [(0, .ref 11), (1, .int (iI r)), (2, .int (iI ((fgt (L.take i) r).length : Int))), (3, .int (iI (i : Int)))] [] τ := by
    intro m
    induction m with
    | zero =>
      intro i τ hi hA h1 h2
      have hc : gI τ 11 2 = L.length := (hA.I (by omega) 2).trans C.1
      have et : L.take i = L := List.take_of_length_le (by omega)
      rw [et] at h1 ⊢
      refine bX1_forget_4 hr (by omega) ⟨by rw [hc]; omega, fun _ => hq _ ((hA.mono (fun b hb => hb.2)).trans (ag_sI (fun b hb => hb.1))) ⟨gI_self _ _ _ _, ?_, fun j x hx => (h1 j x hx).ag (P := fun b => b ≠ 11) (ag_sI (fun _ q => q)) (by omega) (by omega)⟩, fun q => by rw [hc] at q; omega⟩
      have := List.length_filter_le (fun x : Int × (Int → Int) => decide (x.1 ≠ r)) L
      unfold fgt; omega
    | succ m ih =>
      intro i τ hi hA h1 h2
      have hc : gI τ 11 2 = L.length := (hA.I (by omega) 2).trans C.1
      have hil : i < L.length := by omega
      have hgi : L[i]? = some L[i] := List.getElem?_eq_getElem hil
      have ei := h2 i L[i] (Nat.le_refl _) hgi
      have hm := hx L[i] (List.getElem_mem hil)
      have hle := List.length_filter_le (fun x : Int × (Int → Int) => decide (x.1 ≠ r)) (L.take i)
      rw [List.length_take] at hle
      have etk : L.take (i + 1) = L.take i ++ [L[i]] := by rw [List.take_succ, hgi]; rfl
      have e : (i : Int) + 1 = ((i + 1 : Nat) : Int) := by omega
      refine bX1_forget_4 hr (by omega) ⟨by rw [hc]; omega, fun q => by rw [hc] at q; omega, fun _ => ⟨fun q => by omega, fun _ => ⟨⟨by omega, by omega⟩, ?_⟩⟩⟩
      rw [ei.1]
      refine ⟨hm, fun q => ?_, fun q => ?_⟩
      · have ef : fgt (L.take (i + 1)) r = fgt (L.take i) r := by
          unfold fgt
          rw [etk, List.filter_append, List.filter_cons_of_neg (by simpa using q)]; simp
        have := ih (i + 1) τ (by omega) hA (by rw [ef]; exact h1) (fun j x hj hx => h2 j x (by omega) hx)
        rw [ef] at this
        rw [e]; exact this
      · have ef : fgt (L.take (i + 1)) r = fgt (L.take i) r ++ [L[i]] := by
          unfold fgt
          rw [etk, List.filter_append, List.filter_cons_of_pos (by simpa using q)]; simp
        refine sp_move (by omega) (by omega) (by omega) (by unfold fgt; omega) (fun υ hA2 m1 m2 => ?_)
        have := ih (i + 1) υ (by omega) (hA.trans hA2) (fun j x hx => ?_) (fun j x hj hx => m2 j x (by omega) (by unfold fgt; omega) (h2 j x (by omega) hx))
        · rw [ef, List.length_append] at this
          have e2 : (((fgt (L.take i) r).length + [L[i]].length : Nat) : Int) = ((fgt (L.take i) r).length : Int) + 1 := by simp
          rw [e2] at this
          rw [e]; exact this
        · rw [ef] at hx
          by_cases hj : j < (fgt (L.take i) r).length
          · rw [List.getElem?_append_left hj] at hx
            exact m2 j x (by omega) (by omega) (h1 j x hx)
          · rw [List.getElem?_append_right (by omega)] at hx
            have hz : j - (fgt (L.take i) r).length = 0 := by
              have := (List.getElem?_eq_some_iff.mp hx).1
              simp at this; omega
            rw [hz] at hx
            cases hx
            have ej : j = (fgt (L.take i) r).length := by omega
            rw [ej]
            exact m1 _ ei
  exact eX1_forget (lp L.length 0 σ (by omega) Ag.rf (fun j x hx => by simp [fgt] at hx) (fun j x _ hx => C.2.2 j x hx))
