/-! what each call leaves behind is a state of the system again -/
theorem reel_wf {α : AB} (W : WF α) {r : Int} (r0 : 0 ≤ r) (r6 : r < 6) (hb : ¬ rB α r = -1) : 0 ≤ rB α r ∧ rB α r ≤ 2 ∧ BOK (rS α r) (rN α r) (rH α r) ∧ DOK (rD α r) (rH α r) := by
  have w := W.2.2.1 r.toNat (live_r (by omega))
  have e : rB α r = aB α r.toNat := rfl
  have b0 : 0 ≤ rB α r := by omega
  have w2 := w.2.2 b0
  rw [bx_r (by omega)] at w2
  exact ⟨b0, w.2.1, W.2.1 _ (live_b (by show (aB α r.toNat).toNat < 3; omega)), w2⟩
theorem base_wf {α : AB} (W : WF α) {b : Int} (b0 : 0 ≤ b) (b2 : b ≤ 2) : BOK (aS α b.toNat) (aN α b.toNat) (aH α b.toNat) := W.2.1 _ (live_b (by omega))
theorem wf_fill {α : AB} (W : WF α) {r b : Int} (r0 : 0 ≤ r) (r6 : r ≤ 5) (b0 : -1 ≤ b) (b2 : b ≤ 2) {d : Int → Int} (hd : 0 ≤ b → DOK d (aH α b.toNat)) : WF (fill α r b d) := W.fill r0 (by omega) b0 b2 hd
theorem stl_dok {s : Int → Int} {h : Nat} : ∀ {n : Nat} {d d' : Int → Int}, Stl s h n d d' → DOK d h → DOK d' h
  | 0, _, _, ⟨_, e⟩, D => by rw [e]; exact D
  | n + 1, _, _, ⟨k, hc, _, st⟩, D => stl_dok st (crr_DOK D hc)
theorem stlP_dok {s : Int → Int} {h : Nat} {d : Int → Int} (D : DOK d h) : DOK (stlP s h d).2 h := by
  unfold stlP
  split
  · rename_i q
    exact stl_dok (Classical.choose_spec q) D
  · exact D
theorem wf_pit {p : Prop} {a b : Int × AB} (h1 : p → WF a.2) (h2 : ¬ p → WF b.2) : WF (pit p a b).2 := by
  by_cases q : p
  · rw [pit_pos q]; exact h1 q
  · rw [pit_neg q]; exact h2 q
theorem wf_write {α : AB} (W : WF α) (r b v : Int) : WF (oWrite α r b v).2 := by
  unfold oWrite
  refine wf_pit (fun h => wf_pit (fun g => ?_) (fun _ => W)) (fun _ => W)
  have B := base_wf W h.2.1.1 h.2.1.2
  exact wf_fill W h.1.1 h.1.2 (by omega) h.2.1.2 (fun _ => gd_DOK B h.2.2 (by omega))
theorem wf_empty {α : AB} (W : WF α) (r : Int) : WF (oEmpty α r).2 := by
  unfold oEmpty
  exact wf_pit (fun h => wf_pit (fun _ => W) (fun _ => wf_fill W h.1 h.2 (by omega) (by omega) (fun q => by omega))) (fun _ => W)
theorem wf_digit {α : AB} (W : WF α) (r k d : Int) : WF (oDigit α r k d).2 := by
  unfold oDigit
  refine wf_pit (fun h => wf_pit (fun _ => W) (fun hb => wf_pit (fun hk => ?_) (fun _ => W))) (fun _ => W)
  obtain ⟨b0, b2, B, D⟩ := reel_wf W h.1.1 (by omega) hb
  refine W.turn h.1.1 (by omega) b0 ⟨fun j a c => ?_, fun j q => ?_⟩
  · unfold st1
    have := D.1 j a c
    split <;> omega
  · unfold st1
    rw [if_neg (by omega)]; exact D.2 j q
theorem wf_exch {α : AB} (W : WF α) (r k z y : Int) : WF (oExch α r k z y).2 := by
  unfold oExch
  refine wf_pit (fun h => wf_pit (fun _ => W) (fun hb => wf_pit (fun hk => wf_pit (fun hc => ?_) (fun _ => W)) (fun _ => W))) (fun _ => W)
  obtain ⟨b0, b2, B, D⟩ := reel_wf W h.1 (by omega) hb
  exact W.turn h.1 (by omega) b0 (crr_DOK D hc)
theorem wf_settle {α : AB} (W : WF α) (r : Int) : WF (oSettle α r).2 := by
  unfold oSettle
  refine wf_pit (fun h => wf_pit (fun _ => W) (fun hb => ?_)) (fun _ => W)
  obtain ⟨b0, b2, B, D⟩ := reel_wf W h.1 (by omega) hb
  exact W.turn h.1 (by omega) b0 (stlP_dok D)
theorem wf_tun {α : AB} (W : WF α) {r v : Int} (h : okR r) (hb : ¬ rB α r = -1) (v0 : 0 ≤ v) (v1 : v ≤ rTop α r) : WF (tun α r v).2 := by
  obtain ⟨b0, b2, B, D⟩ := reel_wf W h.1 (by omega) hb
  unfold rTop at v1
  exact W.turn h.1 (by omega) b0 (gd_DOK B v0 (by omega))
theorem wf_right {α : AB} (W : WF α) (r : Int) : WF (oRight α r).2 := by
  unfold oRight
  refine wf_pit (fun h => wf_pit (fun _ => W) (fun hb => wf_pit (fun g => ?_) (fun _ => W))) (fun _ => W)
  obtain ⟨b0, b2, B, D⟩ := reel_wf W h.1 (by omega) hb
  exact wf_tun W h hb (va_bound B D.1 (Nat.le_refl _)).1 g
theorem wf_shift {α : AB} (W : WF α) (r n : Int) : WF (oShift α r n).2 := by
  unfold oShift
  refine wf_pit (fun h => wf_pit (fun _ => W) (fun hb => ?_)) (fun _ => W)
  obtain ⟨b0, b2, B, D⟩ := reel_wf W h.1.1 (by omega) hb
  exact W.turn h.1.1 (by omega) b0 (shf_DOK D n)
theorem wf_on {α : AB} (W : WF α) (r t : Int) : WF (oOn α r t).2 := by
  unfold oOn
  exact wf_pit (fun h => wf_pit (fun _ => W) (fun hb => wf_pit (fun _ => wf_pit (fun g => wf_tun W h.1 hb g.1 g.2) (fun _ => W)) (fun _ => W))) (fun _ => W)
theorem wf_sum {α : AB} (W : WF α) (p q t w : Int) : WF (oSum α p q t w).2 := by
  unfold oSum
  refine wf_pit (fun h => wf_pit (fun _ => W) (fun hb => wf_pit (fun e => wf_pit (fun _ => wf_pit (fun g => ?_) (fun _ => W)) (fun _ => wf_pit (fun g => ?_) (fun _ => W))) (fun _ => W))) (fun _ => W)
  · obtain ⟨b0, b2, B, D⟩ := reel_wf W h.1.1 (by omega) (fun z => hb (Or.inl z))
    obtain ⟨b0', b2', B', D'⟩ := reel_wf W h.2.1.1 (by omega) (fun z => hb (Or.inr z))
    have eH : rH α q = rH α p := by unfold rH; show aH α (rB α q).toNat = aH α (rB α p).toNat; rw [e]
    rw [eH] at D'
    refine wf_fill W h.2.2.1.1 h.2.2.1.2 (by omega) b2 (fun _ => ⟨fun k k0 k1 => ?_, fun k z => ?_⟩)
    · have g1 := g k k0 k1
      have g2 := D.1 k k0 k1
      have g3 := D'.1 k k0 k1
      unfold sd; omega
    · unfold sd; rw [D.2 k z, D'.2 k z]; rfl
  · obtain ⟨b0, b2, B, D⟩ := reel_wf W h.1.1 (by omega) (fun z => hb (Or.inl z))
    have g2 := g.2
    unfold rTop at g2
    exact wf_fill W h.2.2.1.1 h.2.2.1.2 (by omega) b2 (fun _ => gd_DOK B g.1 (by omega))
theorem wf_feed {α : AB} (W : WF α) (x : Int) : WF (oFeed α x).2 := by
  unfold oFeed
  have wt := W.2.2.2.2.1
  refine wf_pit (fun h => wf_pit (fun g => W.tape (by omega) (by omega) (fun i i0 i1 => ?_)) (fun _ => W)) (fun _ => W)
  unfold st1
  split
  · omega
  · exact wt.2.2 i i0 (by omega)
theorem wf_read {α : AB} (W : WF α) (r b : Int) : WF (oRead α r b).2 := by
  unfold oRead
  refine wf_pit (fun h => wf_pit (fun g => ?_) (fun _ => ?_)) (fun _ => W)
  · have f := ps_fact W g
    have W1 := wf_fill W h.1.1 h.1.2 (by omega) h.2.2 (fun _ => f.2.2)
    exact W1.tape (Int.le_refl _) (by omega) (fun i i0 i1 => by omega)
  · exact W.tape (Int.le_refl _) (by omega) (fun i i0 i1 => by omega)
theorem wf_row {α : AB} (W : WF α) (w n : Int) : WF (oRow α w n).2 := by
  unfold oRow
  exact wf_pit (fun h => wf_pit (fun g => W.row g h.2 (fun k _ _ => by omega)) (fun _ => W)) (fun _ => W)
theorem wf_put {α : AB} (W : WF α) (w i : Int) {v : Int} (hv : i64 v) : WF (oPut α w i v).2 := by
  unfold oPut
  refine wf_pit (fun h => wf_pit (fun _ => W) (fun _ => wf_pit (fun g => ?_) (fun _ => W))) (fun _ => W)
  have ww := W.2.2.2.2.2 w.toNat (by omega)
  refine W.row ww.1 ww.2.1 (fun k k0 k1 => ?_)
  unfold st1
  split
  · exact hv
  · exact ww.2.2 k k0 k1
theorem wf_copy {α : AB} (W : WF α) (w i u j n : Int) : WF (oCopy α w i u j n).2 := by
  unfold oCopy
  refine wf_pit (fun h => wf_pit (fun _ => W) (fun _ => wf_pit (fun g => ?_) (fun _ => W))) (fun _ => W)
  have w1 := W.2.2.2.2.2 w.toNat (by omega)
  have w2 := W.2.2.2.2.2 u.toNat (by omega)
  refine W.row w2.1 w2.2.1 (fun k k0 k1 => ?_)
  unfold cpy
  split
  · exact w1.2.2 _ (by omega) (by omega)
  · exact w2.2.2 k k0 k1
theorem wf_lay {α : AB} (W : WF α) (r b w : Int) : WF (oLay α r b w).2 := by
  unfold oLay
  exact wf_pit (fun h => wf_pit (fun _ => W) (fun _ => wf_pit (fun g => wf_fill W h.1.1 h.1.2 (by omega) h.2.1.2 (fun _ => lay_DOK g.1 g.2)) (fun _ => W))) (fun _ => W)
theorem wf_film {α : AB} (W : WF α) (r w : Int) : WF (oFilm α r w).2 := by
  unfold oFilm
  refine wf_pit (fun h => wf_pit (fun _ => W) (fun hb => ?_)) (fun _ => W)
  obtain ⟨b0, b2, B, D⟩ := reel_wf W h.1.1 (by omega) hb
  have := B.h43
  exact W.row (by omega) (by omega) (fun k _ _ => by have := D.all k; omega)
theorem wf_undo {α : AB} (W : WF α) : WF (oUndo α).2 := by
  unfold oUndo
  have := W.1
  exact wf_pit (fun _ => W) (fun h => W.und (by omega))
theorem wf_base {α : AB} (W : WF α) (i n s : Int) (h : ∃ h, BOK (stf n s) n h ∨ ¬ rowP n s) : WF (oBase α i n s).2 := by
  unfold oBase
  refine wf_pit (fun g => ?_) (fun _ => W)
  obtain ⟨h, q⟩ := h
  rcases q with q | q
  · exact W.base g.1.1 g.1.2 q
  · exact absurd g.2 q
/-- a row of steps has its worths -/
theorem bok_ex {n s : Int} (R : rowP n s) : ∃ h, BOK (stf n s) n h := by
  have s1 : ∀ k : Int, 0 ≤ k → 1 ≤ stf n s k := fun k hk => (stf_b R hk).1
  have big : 1000000000 < wo (stf n s) 43 := by
    have f1 := (wo_fb s1 43).1
    have f2 := fb_43
    omega
  have key : ∀ m j : Nat, j + m = 43 → (∀ i : Nat, i < j → wo (stf n s) i ≤ 1000000000) → ∃ h, BOK (stf n s) n h := by
    intro m
    induction m with
    | zero =>
      intro j hj hle
      have : j = 43 := by omega
      exact ⟨43, R.1, R.2.1, fun k a => stf_b R a, fun k _ => stf_per k, by omega, fun k hk => hle k (by omega), big⟩
    | succ m ih =>
      intro j hj hle
      by_cases q : wo (stf n s) j ≤ 1000000000
      · refine ih (j + 1) (by omega) (fun i hi => ?_)
        by_cases e : i = j
        · rw [e]; exact q
        · exact hle i (by omega)
      · refine ⟨j, R.1, R.2.1, fun k a => stf_b R a, fun k _ => stf_per k, ?_, hle, by omega⟩
        rcases Nat.eq_zero_or_pos j with z | z
        · rw [z] at q; simp only [wo] at q; omega
        · exact z
  exact key 43 0 rfl (fun i hi => by omega)
