/-! the further calls: what they answer, and the state behind -/
def sd (α : AB) (p q k : Int) : Int := rD α p k + rD α q k
def rk (x y w : Int) : Int := if w = 1 then x - y else if w = 2 then x * y else if y = 0 then -1 else if w = 3 then x / y else x % y
noncomputable def oSum (α : AB) (p q t w : Int) : Int × AB := pit (okR p ∧ okR q ∧ okR t ∧ 0 ≤ w ∧ w ≤ 4) (pit (rB α p = -1 ∨ rB α q = -1) (-11, α) (pit (rB α p = rB α q) (pit (w = 0) (pit (∀ k : Int, 0 ≤ k → k < rH α p → rD α p k + rD α q k ≤ 99) (ct (sd α p q) 43, fill α t (rB α p) (sd α p q)) (-3, α)) (pit (0 ≤ rk (rV α p) (rV α q) w ∧ rk (rV α p) (rV α q) w ≤ rTop α p) (ct (gd (rS α p) (rH α p) (rk (rV α p) (rV α q) w)) 43, fill α t (rB α p) (gd (rS α p) (rH α p) (rk (rV α p) (rV α q) w))) (-3, α))) (-13, α))) (-2, α)
noncomputable def oLike (α : AB) (p q w : Int) : Int := pit (okR p ∧ okR q ∧ 0 ≤ w ∧ w ≤ 1) (pit (rB α p = -1 ∨ rB α q = -1) (-11) (pit (w = 0) (pit (rV α p = rV α q) 1 0) (pit (rB α p = rB α q ∧ ct (fun k => rD α p k - rD α q k) 43 = 0) 1 0))) (-2)
/-- 0 where both bases have the place and the same digit -/
def xe (α : AB) (b c v k : Int) : Int := if k < aH α b.toNat ∧ k < aH α c.toNat then gd (aS α b.toNat) (aH α b.toNat) v k - gd (aS α c.toNat) (aH α c.toNat) v k else 1
noncomputable def oCrossed (α : AB) (b c v : Int) : Int := pit (okB b ∧ okB c ∧ 0 ≤ v) (pit (wo (aS α b.toNat) (aH α b.toNat) - 1 < v ∨ wo (aS α c.toNat) (aH α c.toNat) - 1 < v) (-3) (43 - ct (xe α b c v) 43)) (-2)
/-- a digit's figures, a numeral's bytes from place k down -/
def fig (x : Int) : List Int := if 9 < x then [48 + x / 10, 48 + x % 10] else [48 + x % 10]
def pl (d : Int → Int) : Nat → List Int
  | 0 => fig (d 0)
  | k + 1 => fig (d (k + 1 : Nat)) ++ 46 :: pl d k
def pr (d : Int → Int) : List Int := pl d (hg d 43).toNat
noncomputable def oPrint (α : AB) (r k : Int) : Int := pit (okR r ∧ -1 ≤ k) (pit (rB α r = -1) (-11) (pit (k = -1) ((pr (rD α r)).length : Int) (pit (k < (pr (rD α r)).length) ((pr (rD α r)).getD k.toNat 0) (-12)))) (-2)
noncomputable def oFeed (α : AB) (x : Int) : Int × AB := pit (0 ≤ x ∧ x ≤ 127) (pit (aTZ α < 80) (aTZ α + 1, sT α (aTZ α + 1) (st1 (aT α) (aTZ α) x)) (-4, α)) (-2, α)
noncomputable def oRead (α : AB) (r b : Int) : Int × AB := pit (okR r ∧ okB b) (pit ((ps (aT α) (aTZ α) (aH α b.toNat) 100 0 []).1 = -1) (((ps (aT α) (aTZ α) (aH α b.toNat) 100 0 []).2.length : Int), sT (fill α r b (tD (ps (aT α) (aTZ α) (aH α b.toNat) 100 0 []).2)) 0 (aT α)) (-100 - (ps (aT α) (aTZ α) (aH α b.toNat) 100 0 []).1, sT α 0 (aT α))) (-2, α)
def lastD (L : List (Int × (Int → Int))) : Int × (Int → Int) := L.getD (L.length - 1) (0, fun _ => 0)
noncomputable def oBack (α : AB) : Int × AB := pit ((aL α).length = 0) (-3, α) (((aL α).length : Int) - 1, sR α (lastD (aL α)).1.toNat (rB α (lastD (aL α)).1) (lastD (aL α)).2 (aL α).dropLast)
noncomputable def oRow (α : AB) (w n : Int) : Int × AB := pit (okB w ∧ n ≤ 60) (pit (-1 ≤ n) (1, sW α w.toNat n (fun _ => 0)) (-14, α)) (-2, α)
noncomputable def oPut (α : AB) (w i v : Int) : Int × AB := pit (okB w) (pit (aZ α w.toNat = -1) (-11, α) (pit (0 ≤ i ∧ i < aZ α w.toNat) (1, sW α w.toNat (aZ α w.toNat) (st1 (aI α w.toNat) i v)) (-12, α))) (-2, α)
noncomputable def oGet (α : AB) (w i : Int) : Int := pit (okB w ∧ 0 ≤ i ∧ i < aZ α w.toNat) (aI α w.toNat i) nO
def cpy (f g : Int → Int) (i j n k : Int) : Int := if j ≤ k ∧ k < j + n then f (i + (k - j)) else g k
noncomputable def oCopy (α : AB) (w i u j n : Int) : Int × AB := pit (okB w ∧ okB u) (pit (aZ α w.toNat = -1 ∨ aZ α u.toNat = -1) (-11, α) (pit ((0 ≤ i ∧ 0 ≤ n ∧ i + n ≤ aZ α w.toNat) ∧ (0 ≤ j ∧ 0 ≤ n ∧ j + n ≤ aZ α u.toNat)) (n, sW α u.toNat (aZ α u.toNat) (cpy (aI α w.toNat) (aI α u.toNat) i j n)) (-12, α))) (-2, α)
noncomputable def oLay (α : AB) (r b w : Int) : Int × AB := pit (okR r ∧ okB b ∧ okB w) (pit (aZ α w.toNat = -1) (-11, α) (pit (aZ α w.toNat ≤ aH α b.toNat ∧ ∀ k : Int, 0 ≤ k → k < aZ α w.toNat → 0 ≤ aI α w.toNat k ∧ aI α w.toNat k ≤ 99) (ct (lay (aZ α w.toNat) (aI α w.toNat)) 43, fill α r b (lay (aZ α w.toNat) (aI α w.toNat))) (-3, α))) (-2, α)
noncomputable def oFilm (α : AB) (r w : Int) : Int × AB := pit (okR r ∧ okB w) (pit (rB α r = -1) (-11, α) ((rH α r : Int), sW α w.toNat (rH α r) (rD α r))) (-2, α)
def cR (α : AB) : Int := ct (fun r => aB α r.toNat + 1) 6
def cW (α : AB) : Int := ct (fun w => aZ α w.toNat + 1) 3
def hi {β : Type} (n : Nat) (f : Nat → β) (i : Nat) : β := if i < n then f i else f (i - n)
def lo {β : Type} (n : Nat) (f : Nat → β) (i : Nat) : β := if i < n then f (n + i) else f i
def sImg (α : AB) : AB := (hi 3 (aS α), hi 3 (aN α), hi 3 (aH α), hi 6 (aB α), hi 6 (aD α), aL α, aTZ α, aT α, aZ α, aI α, 1)
def sUnd (α : AB) : AB := (lo 3 (aS α), lo 3 (aN α), lo 3 (aH α), lo 6 (aB α), lo 6 (aD α), [], aTZ α, aT α, aZ α, aI α, aK α)
noncomputable def oImage (α : AB) : Int × AB := (cR α, sImg α)
noncomputable def oUndo (α : AB) : Int × AB := pit (aK α = 0) (-3, α) (cR (sUnd α), sUnd α)
noncomputable def oCount (α : AB) (w : Int) : Int := pit (w = 0) (cR α) (pit (w = 1) ((aL α).length : Int) (pit (w = 2) (aTZ α) (pit (w = 3) (cW α) (-2))))
/-! printing -/
theorem fig_len (x : Int) : 1 ≤ (fig x).length ∧ (fig x).length ≤ 2 := by
  unfold fig; split <;> simp
theorem pl_len (d : Int → Int) : ∀ k : Nat, 1 ≤ (pl d k).length ∧ (pl d k).length ≤ 3 * k + 2
  | 0 => by
    have := fig_len (d 0)
    simp only [pl]; omega
  | k + 1 => by
    have h1 := fig_len (d (k + 1 : Nat))
    have h2 := pl_len d k
    simp only [pl, List.length_append, List.length_cons]
    omega
/-- an array from n on holds a list -/
def holds (σ : ASt) (a : Nat) (n : Int) (l : List Int) : Prop := ∀ (i : Nat) (x : Int), l[i]? = some x → gI σ a (n + i) = x
/-- an array with a list written into it from n on -/
def wr (σ : ASt) (a : Nat) (n : Int) : List Int → ASt
  | [] => σ
  | x :: l => wr (sI σ a n x) a (n + 1) l
theorem wr_ag (a : Nat) : ∀ (l : List Int) (σ : ASt) (n : Int), Ag (fun b => b ≠ a) σ (wr σ a n l)
  | [], _, _ => Ag.rf
  | x :: l, σ, n => (ag_sI (fun _ q => q)).trans (wr_ag a l (sI σ a n x) (n + 1))
theorem wr_lo (a : Nat) : ∀ (l : List Int) (σ : ASt) (n j : Int), j < n → gI (wr σ a n l) a j = gI σ a j
  | [], _, _, _, _ => rfl
  | x :: l, σ, n, j, h => by
    show gI (wr (sI σ a n x) a (n + 1) l) a j = _
    rw [wr_lo a l _ _ _ (by omega), gI_ne _ _ _ (by omega)]
theorem wr_holds (a : Nat) : ∀ (l : List Int) (σ : ASt) (n : Int), holds (wr σ a n l) a n l
  | [], _, _, i, x, h => by simp at h
  | y :: l, σ, n, i, x, h => by
    show gI (wr (sI σ a n y) a (n + 1) l) a (n + i) = x
    cases i with
    | zero => cases h; rw [show n + ((0 : Nat) : Int) = n by omega, wr_lo a l _ _ _ (by omega), gI_self]
    | succ i =>
      rw [List.getElem?_cons_succ] at h
      have := wr_holds a l (sI σ a n y) (n + 1) i x h
      rw [show n + ((i + 1 : Nat) : Int) = n + 1 + (i : Int) by omega]
      exact this
theorem wr_app (a : Nat) : ∀ (l m : List Int) (σ : ASt) (n : Int), wr σ a n (l ++ m) = wr (wr σ a n l) a (n + l.length) m
  | [], m, σ, n => by simp [wr]
  | x :: l, m, σ, n => by
    show wr (sI σ a n x) a (n + 1) (l ++ m) = wr (wr (sI σ a n x) a (n + 1) l) a _ m
    rw [wr_app a l m, List.length_cons, show n + 1 + (l.length : Int) = n + ((l.length + 1 : Nat) : Int) by omega]
/-- one place's bytes: its figures, a point ahead of the next -/
def seg (d : Int → Int) (k : Int) : List Int := fig (d k) ++ (if 0 < k then [46] else [])
theorem pi_step {a c : Nat} (ha : shp a = (1, 0, 128)) (hc : shp c = (1, 0, 43)) {d : Int → Int} {τ : ASt} {Q : Int → ASt → Prop} {n k : Int} (k0 : 0 ≤ k) (k43 : k < 43) (rd : gI τ c k = d k) (dk : 0 ≤ d k ∧ d k ≤ 99) (n0 : 0 ≤ n) (hn : n + (seg d k).length ≤ 128) (nx : Wx K_X7_printInto (QI Q) 11 [(0, .ref a), (1, .ref c), (2, .int (iI (n + (seg d k).length))), (3, .int (iI (k + (-1))))] [] (wr τ a n (seg d k))) : Wx K_X7_printInto (QI Q) 11 [(0, .ref a), (1, .ref c), (2, .int (iI n)), (3, .int (iI k))] [] τ := by
  have e1 : Int.tmod (d k) 10 = d k % 10 := Int.tmod_eq_emod_of_nonneg dk.1
  have e2 : Int.tdiv (d k) 10 = d k / 10 := Int.tdiv_eq_ediv_of_nonneg dk.1
  refine bX7_printInto_11 ha hc (by omega) (by omega) ⟨fun q => by omega, fun _ => ⟨fun q => by omega, fun _ => ⟨⟨k0, k43⟩, ?_⟩⟩⟩
  rw [rd, e1, e2]
  unfold seg fig at hn nx
  refine ⟨by omega, fun q => ?_, fun q => ?_⟩
  · rw [if_neg (by omega)] at hn nx
    by_cases z : 0 < k
    · rw [if_pos z] at hn nx
      simp at hn
      refine ⟨fun u => by omega, fun _ => ⟨⟨n0, by omega⟩, fun u => by omega, fun _ => ⟨by omega, fun u => by omega, fun _ => ⟨⟨by omega, by omega⟩, ?_⟩⟩⟩⟩
      have e : n + (([48 + d k % 10] ++ [46] : List Int).length : Int) = n + 1 + 1 := by simp; omega
      rw [e] at nx
      exact nx
    · rw [if_neg z] at hn nx
      simp at hn
      refine ⟨fun u => by omega, fun _ => ⟨⟨n0, by omega⟩, fun u => ?_, fun u => by omega⟩⟩
      have e : n + (([48 + d k % 10] ++ [] : List Int).length : Int) = n + 1 := by simp
      rw [e] at nx
      exact nx
  · rw [if_pos q] at hn nx
    by_cases z : 0 < k
    · rw [if_pos z] at hn nx
      simp at hn
      refine ⟨fun u => by omega, fun _ => ⟨⟨n0, by omega⟩, by omega, fun u => by omega, fun _ => ⟨⟨by omega, by omega⟩, fun u => by omega, fun _ => ⟨by omega, fun u => by omega, fun _ => ⟨⟨by omega, by omega⟩, ?_⟩⟩⟩⟩⟩
      have e : n + (([48 + d k / 10, 48 + d k % 10] ++ [46] : List Int).length : Int) = n + 1 + 1 + 1 := by simp; omega
      rw [e] at nx
      exact nx
    · rw [if_neg z] at hn nx
      simp at hn
      refine ⟨fun u => by omega, fun _ => ⟨⟨n0, by omega⟩, by omega, fun u => by omega, fun _ => ⟨⟨by omega, by omega⟩, fun u => ?_, fun u => by omega⟩⟩⟩
      have e : n + (([48 + d k / 10, 48 + d k % 10] ++ [] : List Int).length : Int) = n + 1 + 1 := by simp; omega
      rw [e] at nx
      exact nx
theorem pl_seg (d : Int → Int) : ∀ k : Nat, pl d k = seg d k ++ (match k with | 0 => [] | j + 1 => pl d j)
  | 0 => by simp [pl, seg]
  | k + 1 => by
    unfold seg
    rw [if_pos (by omega)]
    simp [pl]
theorem sp_printInto {a c : Nat} (ha : shp a = (1, 0, 128)) (hc : shp c = (1, 0, 43)) {d : Int → Int} {σ : ASt} (hd : CD σ c d) (hr : ∀ k : Int, 0 ≤ k → k < 43 → 0 ≤ d k ∧ d k ≤ 99) {Q : Int → ASt → Prop} (hq : ∀ τ, Ag (fun b => b ≠ a) σ τ → holds τ a 0 (pr d) → Q (pr d).length τ) : EvI K_X7_printInto [.ref a, .ref c] σ Q := by
  have nac : c ≠ a := fun q => by rw [q, ha] at hc; cases hc
  have lp : ∀ (k : Nat) (n : Int) (τ : ASt), k ≤ 42 → 0 ≤ n → n + (pl d k).length ≤ 128 → Ag (fun b => b ≠ a) σ τ → Q (n + (pl d k).length) (wr τ a n (pl d k)) → Wx K_X7_printInto (QI Q) 11 [(0, .ref a), (1, .ref c), (2, .int (iI n)), (3, .int (iI (k : Int)))] [] τ := by
    intro k
    induction k with
    | zero =>
      intro n τ hk n0 hn hA hfin
      have e : pl d 0 = seg d ((0 : Nat) : Int) := by rw [pl_seg]; simp
      rw [e] at hn hfin
      refine pi_step ha hc (by omega) (by omega) ((hA.I nac _).trans (hd 0 (by omega) (by omega))) (hr 0 (by omega) (by omega)) n0 hn ?_
      exact bX7_printInto_11 ha hc (by omega) (by omega) ⟨fun _ => hfin, fun q => by omega⟩
    | succ k ih =>
      intro n τ hk n0 hn hA hfin
      have e := pl_seg d (k + 1)
      dsimp only at e
      rw [e, List.length_append] at hn hfin
      rw [wr_app] at hfin
      refine pi_step ha hc (by omega) (by omega) ((hA.I nac _).trans (hd _ (by omega) (by omega))) (hr _ (by omega) (by omega)) n0 (by omega) ?_
      rw [show ((k + 1 : Nat) : Int) + (-1) = (k : Int) by omega]
      refine ih _ _ (by omega) (by omega) (by omega) (hA.trans (wr_ag a _ _ _)) ?_
      rw [show n + ((seg d ((k + 1 : Nat) : Int)).length : Int) + ((pl d k).length : Int) = n + (((seg d ((k + 1 : Nat) : Int)).length + (pl d k).length : Nat) : Int) by omega]
      exact hfin
  refine eX7_printInto ha hc (sp_highestNotZero hc hd hr ?_)
  have hb := hg_b d 43
  have e : (if (hg d 43 : Int) < 0 then 0 else hg d 43) = (((hg d 43).toNat : Nat) : Int) := by split <;> omega
  rw [e]
  have hl := pl_len d (hg d 43).toNat
  refine lp (hg d 43).toNat 0 σ (by omega) (by omega) (by omega) Ag.rf ?_
  rw [Int.zero_add]
  exact hq _ (wr_ag a _ _ _) (wr_holds a _ _ _)
