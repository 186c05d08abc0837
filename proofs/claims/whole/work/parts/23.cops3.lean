/-! the class's calls, third batch -/
theorem lastD_at {L : List (Int × (Int → Int))} (h : L.length ≠ 0) : L[L.length - 1]? = some (lastD L) := by
  have hlt : L.length - 1 < L.length := by omega
  unfold lastD
  rw [List.getElem?_eq_getElem hlt]
  simp [List.getD, List.getElem?_eq_getElem hlt]
theorem lastD_mem {L : List (Int × (Int → Int))} (h : L.length ≠ 0) : lastD L ∈ L := List.mem_of_getElem? (lastD_at h)
theorem dropLast_at {L : List (Int × (Int → Int))} {j : Nat} {x : Int × (Int → Int)} (h : L.dropLast[j]? = some x) : L[j]? = some x := by
  rw [List.getElem?_dropLast] at h
  split at h
  · exact h
  · cases h
theorem C_back {σ : ASt} {α : AB} (W : WF α) (C : CAll σ α) {Q : Int → ASt → Prop} (hq : ∀ τ, CO σ τ → CAll τ (oBack α).2 → Q (oBack α).1 τ) : EvI K_X7_back [.ref 0] σ Q := by
  unfold oBack at hq
  have hl := C.2.2.1.1
  have h12 := C.2.2.1.2.1
  refine eX7_back ⟨by rw [hl]; omega, fun q => ?_, fun q => ?_⟩
  · rw [hl] at q
    have q' : (aL α).length ≠ 0 := by omega
    rw [pit_neg q'] at hq
    have w := W.2.2.2.1 _ (lastD_mem q')
    have e := C.2.2.1.2.2 _ _ (lastD_at q')
    refine eX1_latestReel ?_
    rw [hl]
    refine sp_isWithin (by omega) (by omega) (by omega) (fun _ _ => ?_) (fun z => by omega)
    have e1 := e.1
    rw [show (((aL α).length - 1 : Nat) : Int) = ((aL α).length : Int) - 1 by omega] at e1
    rw [hl, e1]
    refine ⟨⟨by omega, by omega⟩, by omega, ?_⟩
    refine sp_reelAt (by omega) (fun r0 r6 => ?_) (fun z => by omega)
    refine eX1_takeLatest (sh_d (by omega)) ?_
    rw [hl]
    refine sp_isWithin (by omega) (by omega) (by omega) (fun _ _ => ?_) (fun z => by omega)
    rw [hl, gI_self, show (if (43 : Int) < 43 then (43 : Int) else 43) = 43 by split <;> rfl]
    refine ⟨by omega, by omega, by omega, by omega, ?_⟩
    have e2 := e.2
    rw [show (((aL α).length - 1 : Nat) : Int) = ((aL α).length : Int) - 1 by omega] at e2
    have A1 : Ag (fun c => c ≠ 11 ∧ c ≠ 42 + (lastD (aL α)).1.toNat + 12) σ (cI (sI σ 11 2 (((aL α).length : Int) - 1)) 13 (42 + (lastD (aL α)).1.toNat + 12) ((((aL α).length : Int) - 1) * 43) 0 43) := (ag_sI (fun c h => h.1)).trans (ag_cI (fun c h => h.2))
    have hl2 : gI (cI (sI σ 11 2 (((aL α).length : Int) - 1)) 13 (42 + (lastD (aL α)).1.toNat + 12) ((((aL α).length : Int) - 1) * 43) 0 43) 11 2 = ((aL α).length : Int) - 1 := by
      rw [(ag_cI (P := fun b => b ≠ 42 + (lastD (aL α)).1.toNat + 12) (fun b hb => hb)).I (by omega), gI_self]
    rw [hl2]
    have cr := (C.2.1 _ (live_r (α := α) (r := (lastD (aL α)).1.toNat) (by omega))).2 w.2.2.1
    refine ⟨by omega, hq _ (A1.mono (fun c h => by omega)) (C.fill r0 r6 (A1.mono (fun c h => by omega)) ⟨fun z => ?_, fun _ => ⟨?_, fun k k0 k1 => ?_⟩⟩ ⟨?_, ?_, fun j x hx => ?_⟩)⟩
    · have := w.2.2.1
      unfold rB at z
      omega
    · rw [A1.P (by omega) 0]; exact cr.1
    · rw [gI_cI, if_pos (by omega), gI_na _ _ _ _ (by omega), show (((aL α).length : Int) - 1) * 43 + (k - 0) = (((aL α).length : Int) - 1) * 43 + k by omega]
      exact e2 k k0 k1
    · rw [hl2, List.length_dropLast]; omega
    · rw [List.length_dropLast]; omega
    · exact (C.2.2.1.2.2 j x (dropLast_at hx)).ag A1 (by omega) (by omega)
  · rw [hl] at q
    rw [pit_pos (by omega)] at hq
    exact hq σ Ag.rf C
theorem WF.back {α : AB} (W : WF α) : WF (oBack α).2 := by
  unfold oBack
  by_cases q : (aL α).length = 0
  · rw [pit_pos q]; exact W
  · rw [pit_neg q]
    have w := W.2.2.2.1 _ (lastD_mem q)
    obtain ⟨w1, w2, w3, w4, w5, w6⟩ := W
    have hB : ∀ p, up1 (aB α) (lastD (aL α)).1.toNat (rB α (lastD (aL α)).1) p = aB α p := fun p => by
      by_cases e : p = (lastD (aL α)).1.toNat
      · rw [e, up1_self]; rfl
      · rw [up1_ne _ _ e]
    refine ⟨w1, w2, fun p hp => ?_, fun x hx => ?_, w5, w6⟩
    · show -1 ≤ up1 (aB α) (lastD (aL α)).1.toNat (rB α (lastD (aL α)).1) p ∧ up1 (aB α) (lastD (aL α)).1.toNat (rB α (lastD (aL α)).1) p ≤ 2 ∧ (0 ≤ up1 (aB α) (lastD (aL α)).1.toNat (rB α (lastD (aL α)).1) p → DOK (up1 (aD α) (lastD (aL α)).1.toNat (lastD (aL α)).2 p) (aH α (bx p (up1 (aB α) (lastD (aL α)).1.toNat (rB α (lastD (aL α)).1) p))))
      rw [hB]
      by_cases e : p = (lastD (aL α)).1.toNat
      · subst e
        rw [up1_self]
        exact ⟨(w3 _ hp).1, (w3 _ hp).2.1, fun _ => w.2.2.2⟩
      · rw [up1_ne _ _ e]; exact w3 p hp
    · show 0 ≤ x.1 ∧ x.1 < 6 ∧ 0 ≤ up1 (aB α) (lastD (aL α)).1.toNat (rB α (lastD (aL α)).1) x.1.toNat ∧ DOK x.2 (aH α (bx x.1.toNat (up1 (aB α) (lastD (aL α)).1.toNat (rB α (lastD (aL α)).1) x.1.toNat)))
      rw [hB]
      exact w4 x ((List.dropLast_sublist _).subset hx)
/-! rows -/
theorem CAll.row {σ τ : ASt} {α : AB} (C : CAll σ α) {w : Nat} (hw : w < 3) {z : Int} {it : Int → Int} (H : Ag (fun c => c ≠ 66 + w ∧ c ≠ 66 + w + 3) σ τ) (h : CW τ (66 + w) z it) : CAll τ (sW α w z it) := by
  obtain ⟨c1, c2, c3, c4, c5, c6, c7⟩ := C
  refine ⟨c1.ag H (fun b x y => by omega), c2.ag H (fun b x y => by omega), c3.ag H (by omega) (by omega) (by omega), c4.ag H (by omega) (by omega), fun p hp => ?_, (H.I (by omega) 8).trans c6, c7.ag H (by omega)⟩
  show CW τ (66 + p) (up1 (aZ α) w z p) (up1 (aI α) w it p)
  by_cases e : p = w
  · rw [e, up1_self, up1_self]; exact h
  · rw [up1_ne _ _ e, up1_ne _ _ e]
    exact (c5 p hp).ag H (by omega) (by omega)
theorem WF.row {α : AB} (W : WF α) {w : Nat} {z : Int} {it : Int → Int} (z0 : -1 ≤ z) (z1 : z ≤ 60) (h : ∀ k : Int, 0 ≤ k → k < 60 → i64 (it k)) : WF (sW α w z it) := by
  obtain ⟨w1, w2, w3, w4, w5, w6⟩ := W
  refine ⟨w1, w2, w3, w4, w5, fun p hp => ?_⟩
  show -1 ≤ up1 (aZ α) w z p ∧ up1 (aZ α) w z p ≤ 60 ∧ ∀ k : Int, 0 ≤ k → k < 60 → i64 (up1 (aI α) w it p k)
  by_cases e : p = w
  · rw [e, up1_self, up1_self]; exact ⟨z0, z1, h⟩
  · rw [up1_ne _ _ e, up1_ne _ _ e]; exact w6 p hp
theorem row_facts {σ : ASt} {α : AB} (W : WF α) (C : CAll σ α) {w : Int} (w0 : 0 ≤ w) (w3 : w < 3) : CW σ (66 + w.toNat) (aZ α w.toNat) (aI α w.toNat) ∧ (-1 ≤ aZ α w.toNat ∧ aZ α w.toNat ≤ 60) ∧ (∀ k : Int, 0 ≤ k → k < 60 → i64 (aI α w.toNat k)) := by
  have := W.2.2.2.2.2 w.toNat (by omega)
  exact ⟨C.2.2.2.2.1 _ (by omega), ⟨this.1, this.2.1⟩, this.2.2⟩
theorem C_row {σ : ASt} {α : AB} (W : WF α) (C : CAll σ α) {w n : Int} (hw : i32 w) (hn : i32 n) {Q : Int → ASt → Prop} (hq : ∀ τ, CO σ τ → CAll τ (oRow α w n).2 → Q (oRow α w n).1 τ) : EvI K_X7_row [.ref 0, .int (iI w), .int (iI n)] σ Q := by
  unfold oRow at hq
  refine eX7_row hn (sp_rowAt hw (fun w0 w3 => ⟨fun a => ⟨fun b => ?_, fun b => ?_⟩, fun a => ?_⟩) (fun q => by rw [pit_neg (by omega)] at hq; exact hq σ Ag.rf C))
  · rw [pit_pos (by omega), pit_pos b] at hq
    refine sp_become (sh_w (by omega)) ⟨b, a⟩ (fun τ A1 C1 => hq τ (A1.mono (fun c h => by omega)) (C.row (by omega) A1 C1))
  · rw [pit_pos (by omega), pit_neg (by omega)] at hq; exact hq σ Ag.rf C
  · rw [pit_neg (by omega)] at hq; exact hq σ Ag.rf C
theorem C_put {σ : ASt} {α : AB} (W : WF α) (C : CAll σ α) {w i v : Int} (hw : i32 w) (hi : i32 i) {Q : Int → ASt → Prop} (hq : ∀ τ, CO σ τ → CAll τ (oPut α w i v).2 → Q (oPut α w i v).1 τ) : EvI K_X7_put [.ref 0, .int (iI w), .int (iI i), .long (lI v)] σ Q := by
  unfold oPut at hq
  refine eX7_put (sp_rowAt hw (fun w0 w3 => ?_) (fun q => by rw [pit_neg (by omega)] at hq; exact hq σ Ag.rf C))
  obtain ⟨CC, hz, hi64⟩ := row_facts W C w0 w3
  rw [pit_pos (by omega)] at hq
  refine sp_isMissing (sh_w (by omega)) CC hz (fun z => by rw [pit_pos z] at hq; exact hq σ Ag.rf C) (fun z => ?_)
  rw [pit_neg (by omega)] at hq
  refine sp_rowPlace (sh_w (by omega)) CC hz hi (fun g1 g2 => ⟨by omega, ?_⟩) (fun g => by rw [pit_neg (by omega)] at hq; exact hq σ Ag.rf C)
  rw [pit_pos ⟨g1, g2⟩] at hq
  refine hq _ (ag_sL (fun c h => by omega)) (C.row (w := w.toNat) (by omega) (ag_sL (fun c h => h.2)) ⟨CC.1, fun k k0 k1 => ?_⟩)
  unfold st1
  by_cases e : k = i
  · rw [e, gL_self, if_pos rfl]
  · rw [gL_ne _ _ _ e, if_neg e]; exact CC.2 k k0 k1
theorem C_get {σ : ASt} {α : AB} (W : WF α) (C : CAll σ α) {w i : Int} (hw : i32 w) (hi : i32 i) {Q : Int → ASt → Prop} (hq : Q (oGet α w i) σ) : EvL K_X7_get [.ref 0, .int (iI w), .int (iI i)] σ Q := by
  unfold oGet at hq
  refine eX7_get (sp_rowAt hw (fun w0 w3 => ?_) (fun q => by rw [pit_neg (by omega)] at hq; exact hq))
  obtain ⟨CC, hz, hi64⟩ := row_facts W C w0 w3
  refine sp_rowPlace (sh_w (by omega)) CC hz hi (fun g1 g2 => ⟨by omega, ?_⟩) (fun g => by rw [pit_neg (by omega)] at hq; exact hq)
  rw [pit_pos (by omega)] at hq
  rw [CC.2 i g1 (by omega)]
  exact ⟨hi64 i g1 (by omega), hq⟩
theorem C_copy {σ : ASt} {α : AB} (W : WF α) (C : CAll σ α) {w i u j n : Int} (hw : i32 w) (hi : i32 i) (hu : i32 u) (hj : i32 j) (hn : i32 n) {Q : Int → ASt → Prop} (hq : ∀ τ, CO σ τ → CAll τ (oCopy α w i u j n).2 → Q (oCopy α w i u j n).1 τ) : EvI K_X7_copy [.ref 0, .int (iI w), .int (iI i), .int (iI u), .int (iI j), .int (iI n)] σ Q := by
  have bad : ¬ (okB w ∧ okB u) → Q (-2) σ := fun z => by
    unfold oCopy at hq
    rw [pit_neg z] at hq
    exact hq σ Ag.rf C
  refine eX7_copy hn (sp_rowAt hw (fun w0 w3 => ?_) (fun z => sp_rowAt hu (fun _ _ => bad (by omega)) (fun _ => bad (by omega))))
  refine sp_rowAt hu (fun u0 u3 => ?_) (fun z => bad (by omega))
  clear bad
  obtain ⟨CC, hz, hi64⟩ := row_facts W C w0 w3
  obtain ⟨CC', hz', hi64'⟩ := row_facts W C u0 u3
  unfold oCopy at hq
  rw [pit_pos ⟨by omega, by omega⟩] at hq
  refine sp_isMissing (sh_w (by omega)) CC hz (fun z => by rw [pit_pos (Or.inl z)] at hq; exact hq σ Ag.rf C) (fun z => ?_)
  refine sp_isMissing (sh_w (by omega)) CC' hz' (fun z' => by rw [pit_pos (Or.inr z')] at hq; exact hq σ Ag.rf C) (fun z' => ?_)
  rw [pit_neg (by omega)] at hq
  refine sp_hasRange (sh_w (by omega)) CC hz hi hn (fun g1 g2 g3 => ?_) (fun g => by rw [pit_neg (fun x => g x.1)] at hq; exact hq σ Ag.rf C)
  refine sp_hasRange (sh_w (by omega)) CC' hz' hj hn (fun g4 g5 g6 => ?_) (fun g => by rw [pit_neg (fun x => g x.2)] at hq; exact hq σ Ag.rf C)
  rw [pit_pos ⟨⟨g1, g2, g3⟩, ⟨g4, g5, g6⟩⟩] at hq
  refine ⟨g1, g4, g2, by omega, by omega, ?_⟩
  refine hq _ (ag_cL (fun c h => by omega)) (C.row (w := u.toNat) (by omega) (ag_cL (fun c h => h.2)) ⟨CC'.1, fun k k0 k1 => ?_⟩)
  rw [gL_cL]
  unfold cpy
  by_cases e : j ≤ k ∧ k < j + n
  · rw [if_pos e, if_pos e]; exact CC.2 _ (by omega) (by omega)
  · rw [if_neg e, if_neg e]; exact CC'.2 k k0 k1
theorem lay_DOK {z : Int} {it : Int → Int} {h : Nat} (z1 : z ≤ h) (hi : ∀ k : Int, 0 ≤ k → k < z → 0 ≤ it k ∧ it k ≤ 99) : DOK (lay z it) h := by
  refine ⟨fun k k0 k1 => ?_, fun k q => ?_⟩
  · unfold lay
    by_cases e : 0 ≤ k ∧ k < z
    · rw [if_pos e]; exact hi k e.1 e.2
    · rw [if_neg e]; omega
  · unfold lay; rw [if_neg (by omega)]
theorem C_lay {σ : ASt} {α : AB} (W : WF α) (C : CAll σ α) {r b w : Int} (hr : i32 r) (hb : i32 b) (hw : i32 w) {Q : Int → ASt → Prop} (hq : ∀ τ, CO σ τ → CAll τ (oLay α r b w).2 → Q (oLay α r b w).1 τ) : EvI K_X7_lay [.ref 0, .int (iI r), .int (iI b), .int (iI w)] σ Q := by
  have bad : ¬ (okR r ∧ okB b ∧ okB w) → Q (-2) σ := fun z => by
    unfold oLay at hq
    rw [pit_neg z] at hq
    exact hq σ Ag.rf C
  refine eX7_lay (sp_baseAt hb (fun b0 b3 => ?_) (fun z => sp_rowAt hw (fun _ _ => sp_reelAt hr (fun _ _ => bad (by omega)) (fun _ => bad (by omega))) (fun _ => sp_reelAt hr (fun _ _ => bad (by omega)) (fun _ => bad (by omega)))))
  refine sp_rowAt hw (fun w0 w3 => ?_) (fun z => sp_reelAt hr (fun _ _ => bad (by omega)) (fun _ => bad (by omega)))
  refine sp_reelAt hr (fun r0 r6 => ?_) (fun z => bad (by omega))
  clear bad
  obtain ⟨B, CB⟩ := base_facts W C b0 b3
  have h43 := B.h43
  obtain ⟨CC, hz, hi64⟩ := row_facts W C w0 w3
  unfold oLay at hq
  rw [pit_pos ⟨by omega, by omega, by omega⟩] at hq
  refine sp_isMissing (sh_w (by omega)) CC hz (fun z => by rw [pit_pos z] at hq; exact hq σ Ag.rf C) (fun z => ?_)
  rw [pit_neg (by omega)] at hq
  rw [CB.2.1]
  refine sp_digitsInto (sh_w (by omega)) rfl CC ⟨z, hz.2⟩ hi64 h43 (fun τ g1 g2 A1 D1 => ?_) (fun τ g A1 => ?_)
  · rw [pit_pos ⟨g1, g2⟩] at hq
    have D3 := lay_DOK g1 g2
    have C1 : CL τ (aL α) := C.2.2.1.ag A1 (by omega) (by omega) (by omega)
    refine sp_fillReel r0 r6 (b := b.toNat) (by omega) rfl (fun k _ _ => D3.all k) D1 C1 W.L32 (fun υ A2 g2 D2 L2 => ?_)
    have A3 : Ag (fun c => c ≠ 6 ∧ c ≠ 42 + r.toNat ∧ c ≠ 42 + r.toNat + 12 ∧ DP c) σ υ := (A1.mono (fun c h => h.1)).trans (A2.mono (fun c h => h.2))
    exact hq υ (A3.mono (fun c h => by refine ⟨?_, ?_, ?_, ?_, ?_, ?_⟩ <;> omega)) (C.fill r0 r6 A3 ⟨fun q => by omega, fun _ => ⟨g2, D2⟩⟩ L2)
  · rw [pit_neg (fun x => by
      rcases g with g | ⟨k, k0, k1, k2⟩
      · omega
      · exact k2 (x.2 k k0 k1))] at hq
    exact hq τ (A1.mono (fun c h => by omega)) (C.work A1 (fun b x y z => x))
theorem C_film {σ : ASt} {α : AB} (W : WF α) (C : CAll σ α) {r w : Int} (hr : i32 r) (hw : i32 w) {Q : Int → ASt → Prop} (hq : ∀ τ, CO σ τ → CAll τ (oFilm α r w).2 → Q (oFilm α r w).1 τ) : EvI K_X7_film [.ref 0, .int (iI r), .int (iI w)] σ Q := by
  have bad : ¬ (okR r ∧ okB w) → Q (-2) σ := fun z => by
    unfold oFilm at hq
    rw [pit_neg z] at hq
    exact hq σ Ag.rf C
  refine eX7_film (sp_reelAt hr (fun r0 r6 => ?_) (fun z => sp_rowAt hw (fun _ _ => bad (by omega)) (fun _ => bad (by omega))))
  refine sp_rowAt hw (fun w0 w3 => ?_) (fun z => bad (by omega))
  clear bad
  unfold oFilm at hq
  rw [pit_pos ⟨by omega, by omega⟩] at hq
  refine reel_split W C r0 r6 (fun hb => by rw [pit_pos hb] at hq; exact hq σ Ag.rf C) (fun hb b0 b2 => ?_)
  rw [pit_neg hb] at hq
  obtain ⟨B, D, CC, DD⟩ := reel_facts W C r0 r6 b0 b2
  have h43 := B.h43
  rw [CC.2.1]
  refine sp_become (sh_w (by omega)) ⟨by omega, by omega⟩ (fun τ A1 C1 => ?_)
  have lp : ∀ (m : Nat) (k : Int) (υ : ASt), 0 ≤ k → k + m = 43 → Ag (fun c => c ≠ 66 + w.toNat ∧ c ≠ 66 + w.toNat + 3) σ υ → gI υ (66 + w.toNat) 1 = rH α r → (∀ j : Int, 0 ≤ j → j < 60 → gL υ (66 + w.toNat + 3) j = if j < k then rD α r j else 0) → Wx K_X7_film (QI Q) 52 [(3, .ref (42 + r.toNat)), (4, .ref (66 + w.toNat)), (5, .ref (24 + (rB α r).toNat)), (6, .int (iI k))] [] υ := by
    intro m
    have fin : ∀ (k : Int) (υ : ASt), 0 ≤ k → (rH α r : Int) ≤ k → Ag (fun c => c ≠ 66 + w.toNat ∧ c ≠ 66 + w.toNat + 3) σ υ → gI υ (66 + w.toNat) 1 = rH α r → (∀ j : Int, 0 ≤ j → j < 60 → gL υ (66 + w.toNat + 3) j = if j < k then rD α r j else 0) → i32 (gI υ (24 + (rB α r).toNat) 4) ∧ Q (gI υ (24 + (rB α r).toNat) 4) υ := by
      intro k υ k0 hk A2 h1 hj
      have e1 : gI υ (24 + (rB α r).toNat) 4 = rH α r := (A2.I (by omega) 4).trans CC.2.1
      rw [e1]
      refine ⟨by omega, hq υ (A2.mono (fun c h => by omega)) (C.row (by omega) A2 ⟨h1, fun j j0 j1 => ?_⟩)⟩
      rw [hj j j0 j1]
      by_cases e : j < k
      · rw [if_pos e]
      · rw [if_neg e, D.2 j (by omega)]
    induction m with
    | zero =>
      intro k υ k0 hk A2 h1 hj
      exact bX7_film_52 (sh_r (by omega)) (sh_w (by omega)) (sh_b (by omega)) (by omega) ⟨fun _ => fin k υ k0 (by omega) A2 h1 hj, fun z => by omega⟩
    | succ m ih =>
      intro k υ k0 hk A2 h1 hj
      refine bX7_film_52 (sh_r (by omega)) (sh_w (by omega)) (sh_b (by omega)) (by omega) ⟨fun z => by omega, fun _ => ?_⟩
      have C2 : CW υ (66 + w.toNat) (rH α r) (fun j => if j < k then rD α r j else 0) := ⟨h1, hj⟩
      refine sp_rowPlace (sh_w (by omega)) C2 ⟨by omega, by omega⟩ (by omega) (fun _ g => ?_) (fun g => fin k υ k0 (by omega) A2 h1 hj)
      have e1 : gI υ (42 + r.toNat + 12) k = rD α r k := (A2.I (by omega) k).trans (DD k k0 (by omega))
      have dk := D.all k
      rw [e1]
      refine ⟨⟨k0, by omega⟩, by omega, ⟨k0, by omega⟩, ih (k + 1) _ (by omega) (by omega) (A2.trans (ag_sL (fun c h => h.2))) h1 (fun j j0 j1 => ?_)⟩
      by_cases e : j = k
      · rw [e, gL_self, if_pos (by omega)]
      · rw [gL_ne _ _ _ e, hj j j0 j1]
        by_cases e2 : j < k
        · rw [if_pos e2, if_pos (by omega)]
        · rw [if_neg e2, if_neg (by omega)]
  exact lp 43 0 τ (by omega) (by omega) A1 C1.1 (fun j j0 j1 => by rw [if_neg (by omega)]; exact C1.2 j j0 j1)
