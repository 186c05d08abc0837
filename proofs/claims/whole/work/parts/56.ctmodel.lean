/-! by program and by hand (wip/whole/genctor.py): the reference's constructor -/
theorem ent_mv {D : va_G} {cA : Nat → ClassId} {ad ad' : Nat → Nat} {T : Nat → ASt} {H : Heap} {id : Nat} (hid : id < 72) (ha : ∀ i, i < 72 → ad' i = ad i) (h : va_at D vwCl (ad id, ent cA ad (sg0 T) id) H) : va_at D vwCl (ad' id, ent cA ad' (sg0 T) id) H := by
  rw [ha id hid]
  have hk : (shp id).1 = 0 ∨ (shp id).1 = 1 ∨ (shp id).1 = 2 ∨ (shp id).1 = 3 ∨ (shp id).1 = 4 := (by decide +kernel : ∀ id, id < 72 → (shp id).1 = 0 ∨ (shp id).1 = 1 ∨ (shp id).1 = 2 ∨ (shp id).1 = 3 ∨ (shp id).1 = 4) id hid
  rcases hk with k | k | k | k | k
  · have e : ent cA ad' (sg0 T) id = ent cA ad (sg0 T) id := by
      unfold ent
      rw [if_pos k, if_pos k]
      congr 2
      apply List.ext_getElem?
      intro j
      rw [List.getElem?_mapIdx, List.getElem?_mapIdx]
      cases hq : (fty (shp id).2.1)[j]? with
      | none => rfl
      | some t =>
        have hj : j < (fty (shp id).2.1).length := (List.getElem?_eq_some_iff.mp hq).1
        refine congrArg some ?_
        show entF ad' (sg0 T) id j t = entF ad (sg0 T) id j t
        unfold entF
        by_cases t0 : t = 0
        · rw [if_pos t0, if_pos t0]
        · rw [if_neg t0, if_neg t0]
          by_cases t1 : t = 1
          · rw [if_pos t1, if_pos t1]
          · rw [if_neg t1, if_neg t1]
            by_cases t2 : t = 2
            · have key : ∀ id, id < 72 → (shp id).1 = 0 → ∀ j, j < (fty (shp id).2.1).length → (fty (shp id).2.1)[j]? = some 2 → fin id j < 72 := by decide +kernel
              subst t2
              rw [if_pos rfl, if_pos rfl, ha _ (key id hid k j hj hq)]
            · rw [if_neg t2, if_neg t2]
              show va_rf ((if id = 14 ∧ j < 2 then some (16 + j) else none : Option Nat).map ad') = va_rf ((if id = 14 ∧ j < 2 then some (16 + j) else none : Option Nat).map ad)
              by_cases q : id = 14 ∧ j < 2
              · rw [if_pos q, Option.map_some, Option.map_some, ha _ (by omega)]
              · rw [if_neg q]; rfl
    rw [e]; exact h
  · have hs : shp id = (1, (shp id).2.1, (shp id).2.2) := Prod.ext k rfl
    rw [ent_1 hs] at h ⊢; exact h
  · have hs : shp id = (2, (shp id).2.1, (shp id).2.2) := Prod.ext k rfl
    rw [ent_2 hs] at h ⊢; exact h
  · have hs : shp id = (3, (shp id).2.1, (shp id).2.2) := Prod.ext k rfl
    rw [ent_3 hs] at h ⊢; exact h
  · have key : ∀ id, id < 72 → (shp id).1 = 4 → ∀ j, j < (shp id).2.2 → fin id j < 72 := by decide +kernel
    have hs : shp id = (4, (shp id).2.1, (shp id).2.2) := Prod.ext k rfl
    rw [ent_4 hs] at h ⊢
    exact refs_at h (fun j hj => by rw [ha _ (key id hid k j hj)])
/-- what a state of the system is at first -/
noncomputable def ab0 : AB := (fun _ => stf 1 1, fun _ => 1, fun _ => hOf (stf 1 1) 1, fun _ => -1, fun _ _ => 0, [], 0, fun _ => 0, fun _ => -1, fun _ _ => 0, 0)
theorem bok0 : BOK (stf 1 1) 1 (hOf (stf 1 1) 1) := by
  obtain ⟨h, B⟩ := bok_ex row11
  rw [hOf_eq B]; exact B
theorem wf0 : WF ab0 := by
  refine ⟨Or.inl rfl, fun i _ => bok0, fun r _ => ⟨show (-1 : Int) ≤ -1 by decide, show (-1 : Int) ≤ 2 by decide, fun q => absurd q (show ¬ ((0 : Int) ≤ -1) by decide)⟩, fun x hx => absurd hx List.not_mem_nil, ⟨Int.le_refl _, show (0 : Int) ≤ 80 by decide, fun i i0 i1 => ?_⟩, fun w _ => ⟨show (-1 : Int) ≤ -1 by decide, show (-1 : Int) ≤ 60 by decide, fun k _ _ => show i64 0 by omega⟩⟩
  exact absurd i0 (by have : i < 0 := i1; omega)
theorem sg0_I (T : Nat → ASt) {a : Nat} (j : Int) (h : a < 24 ∨ (36 ≤ a ∧ a < 66) ∨ 69 ≤ a) : gI (sg0 T) a j = 0 := by
  show (if 24 ≤ a ∧ a < 30 then (T (a - 24)).1 0 j else if 30 ≤ a ∧ a < 36 then (T (a - 30)).1 1 j else if 66 ≤ a ∧ a < 69 ∧ j = 1 then -1 else 0) = 0
  rw [if_neg (by omega), if_neg (by omega), if_neg (by omega)]
theorem sg0_L (T : Nat → ASt) {a : Nat} (j : Int) (h : 42 ≤ a) : gL (sg0 T) a j = 0 := by
  show (if 24 ≤ a ∧ a < 30 then (T (a - 24)).2.1 0 j else if 36 ≤ a ∧ a < 42 then (T (a - 36)).2.1 2 j else 0) = 0
  rw [if_neg (by omega), if_neg (by omega)]
theorem call0 {T : Nat → ASt} {Hh : Nat → Nat} (hT : ∀ i : Nat, i < 3 → oneB (T i) (Hh i) i) : CAll (sg0 T) ab0 := by
  have b1 : ∀ i : Nat, i < 3 → ∀ j, gI (sg0 T) (24 + i) j = gI (T i) 0 j := fun i hi j => by
    show (if 24 ≤ 24 + i ∧ 24 + i < 30 then (T (24 + i - 24)).1 0 j else _) = (T i).1 0 j
    rw [if_pos (by omega), show 24 + i - 24 = i by omega]
  have b2 : ∀ i : Nat, i < 3 → ∀ j, gI (sg0 T) (24 + i + 6) j = gI (T i) 1 j := fun i hi j => by
    show (if 24 ≤ 24 + i + 6 ∧ 24 + i + 6 < 30 then _ else if 30 ≤ 24 + i + 6 ∧ 24 + i + 6 < 36 then (T (24 + i + 6 - 30)).1 1 j else _) = (T i).1 1 j
    rw [if_neg (by omega), if_pos (by omega), show 24 + i + 6 - 30 = i by omega]
  have b3 : ∀ i : Nat, i < 3 → ∀ j, gL (sg0 T) (24 + i) j = gL (T i) 0 j := fun i hi j => by
    show (if 24 ≤ 24 + i ∧ 24 + i < 30 then (T (24 + i - 24)).2.1 0 j else _) = (T i).2.1 0 j
    rw [if_pos (by omega), show 24 + i - 24 = i by omega]
  have b4 : ∀ i : Nat, i < 3 → ∀ j, gL (sg0 T) (24 + i + 12) j = gL (T i) 2 j := fun i hi j => by
    show (if 24 ≤ 24 + i + 12 ∧ 24 + i + 12 < 30 then _ else if 36 ≤ 24 + i + 12 ∧ 24 + i + 12 < 42 then (T (24 + i + 12 - 36)).2.1 2 j else _) = (T i).2.1 2 j
    rw [if_neg (by omega), if_pos (by omega), show 24 + i + 12 - 36 = i by omega]
  refine ⟨⟨fun i hi => ?_, fun i hi => ?_⟩, fun r hr => ⟨fun _ => ?_, fun q => absurd q (show ¬ ((0 : Int) ≤ -1) by decide)⟩, ⟨sg0_I T 2 (by omega), by decide, fun j x hx => by cases hx⟩, ⟨sg0_I T 1 (by omega), fun i i0 i1 => by have : i < 0 := i1; omega⟩, fun w hw => ⟨?_, fun k k0 k1 => sg0_L T k (by omega)⟩, sg0_I T 8 (by omega), ⟨16, 17, rfl, rfl, Or.inl ⟨rfl, rfl⟩⟩⟩
  · rw [b1 i hi 0]; exact (hT i hi).2.2
  · have hi3 : i < 3 := by
      rcases hi with q | q
      · exact q
      · exact absurd q.2 (by decide)
    obtain ⟨B, ⟨c1, c2, c3, c4, c5⟩, -⟩ := hT i hi3
    have e : Hh i = hOf (stf 1 1) 1 := (hOf_eq B).symm
    rw [e] at c2 c3 c5
    exact ⟨(b1 i hi3 3).trans c1, (b1 i hi3 4).trans c2, (b3 i hi3 5).trans c3, fun k a c => (b2 i hi3 k).trans (c4 k a c), fun k a c => (b4 i hi3 k).trans (c5 k a c)⟩
  · have hr12 := hr.lt
    show (if 42 + r = 14 ∧ 0 < 2 then some (16 + 0) else none) = none
    rw [if_neg (by omega)]
  · show (if 24 ≤ 66 + w ∧ 66 + w < 30 then _ else if 30 ≤ 66 + w ∧ 66 + w < 36 then _ else if 66 ≤ 66 + w ∧ 66 + w < 69 ∧ (1 : Int) = 1 then (-1 : Int) else 0) = -1
    rw [if_neg (by omega), if_neg (by omega), if_pos (by omega)]
/-- the reference's loops: bases 0 .. b told; then reels 0 .. b emptied -/
def J1 (T : Nat → ASt) (b : Int) (σ : ASt) : Prop := Fr (fun a _ => ¬ (73 ≤ a ∧ a ≤ 78)) (sg0 T) σ ∧ ∀ i : Int, 0 ≤ i → i < b → MB σ i (stf 1 1) 1 (hOf (stf 1 1) 1)
def J2 (T : Nat → ASt) (b : Int) (σ : ASt) : Prop := J1 T 3 σ ∧ ∀ r : Int, 0 ≤ r → r < b → gI σ 78 r = -1
theorem mall0 {T : Nat → ASt} {σ : ASt} (J : J2 T 6 σ) : MAll σ ab0 := by
  obtain ⟨⟨F, hb⟩, hr⟩ := J
  have zI : ∀ a j, 72 ≤ a → ¬ (73 ≤ a ∧ a ≤ 78) → gI σ a j = 0 := fun a j h q => (F.I q).trans (sg0_I T j (by omega))
  have zL : ∀ a j, 72 ≤ a → ¬ (73 ≤ a ∧ a ≤ 78) → gL σ a j = 0 := fun a j h q => (F.L q).trans (sg0_L T j (by omega))
  refine ⟨fun i i0 i3 => hb i i0 i3, fun r r0 r6 => ⟨hr r r0 r6, fun q => absurd q (show ¬ ((0 : Int) ≤ -1) by decide)⟩, ⟨zI _ _ (by omega) (by omega), by decide, fun j x hx => by cases hx⟩, ⟨zI _ _ (by omega) (by omega), fun i i0 i1 => by have : i < 0 := i1; omega⟩, fun w w0 w3 => ⟨fun _ => zI _ _ (by omega) (by omega), fun q => absurd q (show ¬ ((0 : Int) ≤ -1) by decide), fun k _ _ => zL _ _ (by omega) (by omega)⟩, ⟨zI _ _ (by omega) (by omega), fun q => absurd q (show ¬ ((0 : Int) = 1) by decide)⟩, fun j j0 => ⟨fun _ => ?_, fun _ => ?_, fun _ => ?_⟩⟩
  · rw [zI 79 j (by omega) (by omega)]; omega
  · rw [zI 82 j (by omega) (by omega)]; omega
  · rw [zI 100 j (by omega) (by omega)]; omega
theorem ent72 (cA : Nat → ClassId) (ad : Nat → Nat) (σ : ASt) : ent cA ad σ 72 = .inr (8, [entF ad σ 72 0 2, entF ad σ 72 1 2, entF ad σ 72 2 2, entF ad σ 72 3 2, entF ad σ 72 4 2, entF ad σ 72 5 2, entF ad σ 72 6 2, entF ad σ 72 7 2, entF ad σ 72 8 2, entF ad σ 72 9 2, entF ad σ 72 10 0, entF ad σ 72 11 2, entF ad σ 72 12 2, entF ad σ 72 13 2, entF ad σ 72 14 2, entF ad σ 72 15 0, entF ad σ 72 16 2, entF ad σ 72 17 2, entF ad σ 72 18 2, entF ad σ 72 19 0, entF ad σ 72 20 2, entF ad σ 72 21 2, entF ad σ 72 22 2, entF ad σ 72 23 0, entF ad σ 72 24 0, entF ad σ 72 25 2, entF ad σ 72 26 2, entF ad σ 72 27 2, entF ad σ 72 28 2, entF ad σ 72 29 2, entF ad σ 72 30 2, entF ad σ 72 31 2, entF ad σ 72 32 2, entF ad σ 72 33 0]) := by
  rw [ent_0 (show shp 72 = (0, 8, 0) from rfl)]
  show (Sum.inr (8, List.mapIdx (fun j t => entF ad σ 72 j t) [2, 2, 2, 2, 2, 2, 2, 2, 2, 2, 0, 2, 2, 2, 2, 0, 2, 2, 2, 0, 2, 2, 2, 0, 0, 2, 2, 2, 2, 2, 2, 2, 2, 0]) : va_E) = _
  simp only [List.mapIdx_cons, List.mapIdx_nil]
section ML1
variable {p : Program} {l : Launch} {e : Env} {R : Room} {s : State} {m : MethodId} {args : Array Value} {below : List Frame} {meth : Method} {c : Code} {A : Nat → Prop} {D : va_G} {cA : Nat → ClassId} {ad : Nat → Nat} {cells slots : Nat} {G : State → Prop} {T : Nat → ASt}
theorem m_loop1 (X : Cx p s m args c A D cA ad RX8 cX8_init 2) (hR : RmOk R K_X8_fills) (hcs : cells ≤ R.cells ∧ slots ≤ R.slots) (k : ∀ σ, J1 T 3 σ → Wg p l e R s m args below meth c A D cA ad cells slots G 270 [(1, .int (iI 3)), (0, .ref 72)] [] σ) : ∀ (n b : Nat) (σ : ASt), b + n = 3 → J1 T b σ → Wg p l e R s m args below meth c A D cA ad cells slots G 237 [(1, .int (iI b)), (0, .ref 72)] [] σ := by
  intro n
  induction n with
  | zero =>
    intro b σ hb J
    have e3 : b = 3 := by omega
    subst e3
    refine g_iload_n X 0 dX8_init_237 rfl ?_
    refine g_iconst X dX8_init_238 ?_
    exact g_icmp_ge X (tgt := 270) dX8_init_239 (by decide) (by omega) (by omega) (fun _ => k σ J) (fun q => by exfalso; omega)
  | succ n ih =>
    intro b σ hb J
    refine g_iload_n X 0 dX8_init_237 rfl ?_
    refine g_iconst X dX8_init_238 ?_
    refine g_icmp_ge X (tgt := 270) dX8_init_239 (by decide) (by omega) (by omega) (fun q => by exfalso; omega) (fun _ => ?_)
    refine g_aload_n X 1 dX8_init_242 rfl ?_
    refine g_getF X (f := 74) dX8_init_243 lf_X8_15 rfl rfl rfl ?_
    refine g_iload_n X 0 dX8_init_246 rfl ?_
    refine g_iconst X dX8_init_247 ?_
    refine g_iast X dX8_init_248 rfl (by omega) (by omega) ?_
    refine g_aload_n X 1 dX8_init_249 rfl ?_
    refine g_getF X (f := 73) dX8_init_250 lf_X8_11 rfl rfl rfl ?_
    refine g_bipush X dX8_init_253 (by decide +kernel) ?_
    refine g_iload_n X 0 dX8_init_255 rfl ?_
    refine g_imul X dX8_init_256 ?_
    refine g_iconst X dX8_init_257 ?_
    refine g_iast X dX8_init_258 rfl (by omega) (by omega) ?_
    refine g_aload_n X 1 dX8_init_259 rfl ?_
    refine g_iload_n X 0 dX8_init_260 rfl ?_
    have F1 : Fr (fun a j => ¬ (a = 74 ∧ j = b) ∧ ¬ (a = 73 ∧ j = 8 * (b : Int))) σ (sI (sI σ 74 (b : Int) 1) 73 (8 * (b : Int)) 1) := (fr_sI (by omega) (fun _ _ h => h.1)).trans (fr_sI (by omega) (fun _ _ h => h.2))
    refine g_cVV X (K := K_X8_fills) (Q1 := fun τ => J1 T ((b + 1 : Nat) : Int) τ) [.int (iI b)] [] dX8_init_261 lv_X8_98 hR hcs (fun q hq => by obtain ⟨i, hi, rfl⟩ := hq; exact X.2.2.2.2.2.2.1 i hi) rfl rfl rfl (Nat.le_of_ble_eq_true rfl) rfl ?_ (fun τ hτ => ?_)
    · refine sp_fills (b := (b : Int)) (n := 1) (s := stf 1 1) (by omega) (by omega) (by omega) (by omega) (fun j a => stf_b row11 a) (fun j _ => stf_per j) ?_ (fun j a c => ?_) (fun h τ B F2 M => ⟨?_, fun i i0 i1 => ?_⟩)
      · rw [gI_na _ _ _ _ (by omega), gI_self]
      · have : j = 0 := by omega
        subst this
        rw [Int.add_zero, gI_self]
        decide +kernel
      · exact (J.1.trans (F1.mono (fun a j h => by constructor <;> omega))).trans (F2.mono (fun a j h => by refine ⟨?_, ?_, ?_⟩ <;> omega))
      · by_cases q : i = b
        · subst q
          rw [hOf_eq B]; exact M
        · have h43 := bok0.h43
          obtain ⟨m1, m2, m3, m4, m5⟩ := J.2 i i0 (by omega)
          refine ⟨(F2.I ?_).trans ((F1.I ?_).trans m1), (F2.I ?_).trans ((F1.I ?_).trans m2), (F2.L ?_).trans ((F1.L ?_).trans m3), fun j a c => (F2.I ?_).trans ((F1.I ?_).trans (m4 j a c)), fun j a c => (F2.L ?_).trans ((F1.L ?_).trans (m5 j a c))⟩
          · refine ⟨?_, ?_, ?_⟩ <;> omega
          · constructor <;> omega
          · refine ⟨?_, ?_, ?_⟩ <;> omega
          · constructor <;> omega
          · refine ⟨?_, ?_, ?_⟩ <;> omega
          · constructor <;> omega
          · refine ⟨?_, ?_, ?_⟩ <;> omega
          · constructor <;> omega
          · refine ⟨?_, ?_, ?_⟩ <;> omega
          · constructor <;> omega
    · refine g_iinc X (x := (b : Int)) (lv' := [(1, .int (iI ((b : Int) + 1))), (0, .ref 72)]) 0 dX8_init_264 rfl (by decide) rfl ?_
      refine g_goto X (tgt := 237) dX8_init_267 (by decide) ?_
      exact ih (b + 1) τ (by omega) hτ
theorem m_loop2 (X : Cx p s m args c A D cA ad RX8 cX8_init 2) (k : ∀ σ, J2 T 6 σ → Wg p l e R s m args below meth c A D cA ad cells slots G 291 [(1, .int (iI 6)), (0, .ref 72)] [] σ) : ∀ (n b : Nat) (σ : ASt), b + n = 6 → J2 T b σ → Wg p l e R s m args below meth c A D cA ad cells slots G 272 [(1, .int (iI b)), (0, .ref 72)] [] σ := by
  intro n
  induction n with
  | zero =>
    intro b σ hb J
    have e3 : b = 6 := by omega
    subst e3
    refine g_iload_n X 0 dX8_init_272 rfl ?_
    refine g_bipush X dX8_init_273 (by decide +kernel) ?_
    exact g_icmp_ge X (tgt := 291) dX8_init_275 (by decide) (by omega) (by omega) (fun _ => k σ J) (fun q => by exfalso; omega)
  | succ n ih =>
    intro b σ hb J
    refine g_iload_n X 0 dX8_init_272 rfl ?_
    refine g_bipush X dX8_init_273 (by decide +kernel) ?_
    refine g_icmp_ge X (tgt := 291) dX8_init_275 (by decide) (by omega) (by omega) (fun q => by exfalso; omega) (fun _ => ?_)
    refine g_aload_n X 1 dX8_init_278 rfl ?_
    refine g_getF X (f := 78) dX8_init_279 lf_X8_28 rfl rfl rfl ?_
    refine g_iload_n X 0 dX8_init_282 rfl ?_
    refine g_iconst X dX8_init_283 ?_
    refine g_iast X dX8_init_284 rfl (by omega) (by omega) ?_
    refine g_iinc X (x := (b : Int)) (lv' := [(1, .int (iI ((b : Int) + 1))), (0, .ref 72)]) 0 dX8_init_285 rfl (by decide) rfl ?_
    refine g_goto X (tgt := 272) dX8_init_288 (by decide) ?_
    have F1 : Fr (fun a _ => ¬ (a = 78)) σ (sI σ 78 (b : Int) (-1)) := fr_sI (by omega) (fun _ _ h => by omega)
    refine ih (b + 1) _ (by omega) ⟨⟨J.1.1.trans (F1.mono (fun a _ h => by omega)), fun i i0 i1 => (J.1.2 i i0 i1).fr F1 (fun a j h1 h2 => by omega)⟩, fun r r0 r1 => ?_⟩
    by_cases q : r = b
    · rw [q, gI_self]
    · rw [gI_ne _ _ _ q]; exact J.2 r r0 (by omega)
end ML1
set_option maxHeartbeats 40000000 in
set_option maxRecDepth 100000 in
theorem ct_X8 (cA : Nat → ClassId) (ad : Nat → Nat) (T : Nat → ASt) (Hh : Nat → Nat) (hT : ∀ i : Nat, i < 3 → oneB (T i) (Hh i) i) (b0 h : Nat) : Ctr K_X8_init [.ref h] cA ((h, .inr (8, [.null, .null, .null, .null, .null, .null, .null, .null, .null, .null, .int (iI 0), .null, .null, .null, .null, .int (iI 0), .null, .null, .null, .int (iI 0), .null, .null, .null, .int (iI 0), .int (iI 0), .null, .null, .null, .null, .null, .null, .null, .null, .int (iI 0)])) :: w72 cA ad (sg0 T)) (fun w1 => ∃ (ad1 : Nat → Nat) (σ : ASt), ad1 72 = h ∧ ad1 101 = b0 ∧ (∀ i : Nat, i < 72 → ad1 i = ad i) ∧ CAll σ ab0 ∧ MAll σ ab0 ∧ w1 = wl cA ad1 σ) := by
  refine Ctr.of rfl rfl rfl (Nat.le_of_ble_eq_true rfl) (fun p l e s m args below meth c D X0 hin9 hr hlk => ?_)
  have X : Cc p s m args c (cF _ s.heap.size) D cA RX8 cX8_init 2 := X0
  refine c_eq (ws' := (h, .inr (8, [.null, .null, .null, .null, .null, .null, .null, .null, .null, .null, .int (iI 0), .null, .null, .null, .null, .int (iI 0), .null, .null, .null, .int (iI 0), .null, .null, .null, .int (iI 0), .int (iI 0), .null, .null, .null, .null, .null, .null, .null, .null, .int (iI 0)])) :: w72 cA ad (sg0 T)) rfl ?_
  refine c_aload X 0 dX8_init_0 rfl ?_
  refine c_obj X dX8_init_1 (wmem 642 (by decide +kernel) rfl) (wmem 62 (by decide +kernel) rfl) (wmem 63 rfl rfl) (Nat.le_of_ble_eq_true rfl) (Nat.le_of_ble_eq_true rfl) ?_
  refine c_aload X 0 dX8_init_4 rfl ?_
  refine c_bipush X dX8_init_5 (by decide +kernel) ?_
  refine c_newI X (N := 24) (cells' := 1) (slots' := 24) dX8_init_7 (wmem 84 (by decide +kernel) rfl) rfl (Nat.le_of_ble_eq_true rfl) (Nat.le_of_ble_eq_true rfl) rfl rfl ⟨(Nat.le_of_ble_eq_true rfl), (Nat.le_of_ble_eq_true rfl)⟩ (fun q1 => ?_)
  refine c_putF X hin9 (fs' := [.ref q1, .null, .null, .null, .null, .null, .null, .null, .null, .null, .int (iI 0), .null, .null, .null, .null, .int (iI 0), .null, .null, .null, .int (iI 0), .null, .null, .null, .int (iI 0), .int (iI 0), .null, .null, .null, .null, .null, .null, .null, .null, .int (iI 0)]) (ws' := (q1, .inl (cA 0, 24, .inl (fun _ => iI 0))) :: (h, .inr (8, [.ref q1, .null, .null, .null, .null, .null, .null, .null, .null, .null, .int (iI 0), .null, .null, .null, .null, .int (iI 0), .null, .null, .null, .int (iI 0), .null, .null, .null, .int (iI 0), .int (iI 0), .null, .null, .null, .null, .null, .null, .null, .null, .int (iI 0)])) :: w72 cA ad (sg0 T)) 1 dX8_init_9 lq_X8_11 rfl rfl rfl (Nat.lt_of_succ_le (Nat.le_of_ble_eq_true rfl)) rfl rfl ?_
  refine c_aload X 0 dX8_init_12 rfl ?_
  refine c_iconst X dX8_init_13 ?_
  refine c_newI X (N := 3) (cells' := 2) (slots' := 27) dX8_init_14 (wmem 84 (by decide +kernel) rfl) rfl (Nat.le_of_ble_eq_true rfl) (Nat.le_of_ble_eq_true rfl) rfl rfl ⟨(Nat.le_of_ble_eq_true rfl), (Nat.le_of_ble_eq_true rfl)⟩ (fun q2 => ?_)
  refine c_putF X hin9 (fs' := [.ref q1, .ref q2, .null, .null, .null, .null, .null, .null, .null, .null, .int (iI 0), .null, .null, .null, .null, .int (iI 0), .null, .null, .null, .int (iI 0), .null, .null, .null, .int (iI 0), .int (iI 0), .null, .null, .null, .null, .null, .null, .null, .null, .int (iI 0)]) (ws' := (q2, .inl (cA 0, 3, .inl (fun _ => iI 0))) :: (q1, .inl (cA 0, 24, .inl (fun _ => iI 0))) :: (h, .inr (8, [.ref q1, .ref q2, .null, .null, .null, .null, .null, .null, .null, .null, .int (iI 0), .null, .null, .null, .null, .int (iI 0), .null, .null, .null, .int (iI 0), .null, .null, .null, .int (iI 0), .int (iI 0), .null, .null, .null, .null, .null, .null, .null, .null, .int (iI 0)])) :: w72 cA ad (sg0 T)) 2 dX8_init_16 lq_X8_15 rfl rfl rfl (Nat.lt_of_succ_le (Nat.le_of_ble_eq_true rfl)) rfl rfl ?_
  refine c_aload X 0 dX8_init_19 rfl ?_
  refine c_iconst X dX8_init_20 ?_
  refine c_newI X (N := 3) (cells' := 3) (slots' := 30) dX8_init_21 (wmem 84 (by decide +kernel) rfl) rfl (Nat.le_of_ble_eq_true rfl) (Nat.le_of_ble_eq_true rfl) rfl rfl ⟨(Nat.le_of_ble_eq_true rfl), (Nat.le_of_ble_eq_true rfl)⟩ (fun q3 => ?_)
  refine c_putF X hin9 (fs' := [.ref q1, .ref q2, .ref q3, .null, .null, .null, .null, .null, .null, .null, .int (iI 0), .null, .null, .null, .null, .int (iI 0), .null, .null, .null, .int (iI 0), .null, .null, .null, .int (iI 0), .int (iI 0), .null, .null, .null, .null, .null, .null, .null, .null, .int (iI 0)]) (ws' := (q3, .inl (cA 0, 3, .inl (fun _ => iI 0))) :: (q2, .inl (cA 0, 3, .inl (fun _ => iI 0))) :: (q1, .inl (cA 0, 24, .inl (fun _ => iI 0))) :: (h, .inr (8, [.ref q1, .ref q2, .ref q3, .null, .null, .null, .null, .null, .null, .null, .int (iI 0), .null, .null, .null, .null, .int (iI 0), .null, .null, .null, .int (iI 0), .null, .null, .null, .int (iI 0), .int (iI 0), .null, .null, .null, .null, .null, .null, .null, .null, .int (iI 0)])) :: w72 cA ad (sg0 T)) 3 dX8_init_23 lq_X8_18 rfl rfl rfl (Nat.lt_of_succ_le (Nat.le_of_ble_eq_true rfl)) rfl rfl ?_
  refine c_aload X 0 dX8_init_26 rfl ?_
  refine c_sipush X dX8_init_27 (by decide +kernel) ?_
  refine c_newL X (N := 150) (cells' := 4) (slots' := 180) dX8_init_30 (wmem 134 (by decide +kernel) rfl) rfl (Nat.le_of_ble_eq_true rfl) (Nat.le_of_ble_eq_true rfl) rfl rfl ⟨(Nat.le_of_ble_eq_true rfl), (Nat.le_of_ble_eq_true rfl)⟩ (fun q4 => ?_)
  refine c_putF X hin9 (fs' := [.ref q1, .ref q2, .ref q3, .ref q4, .null, .null, .null, .null, .null, .null, .int (iI 0), .null, .null, .null, .null, .int (iI 0), .null, .null, .null, .int (iI 0), .null, .null, .null, .int (iI 0), .int (iI 0), .null, .null, .null, .null, .null, .null, .null, .null, .int (iI 0)]) (ws' := (q4, .inl (cA 1, 150, .inr (.inl (fun _ => lI 0)))) :: (q3, .inl (cA 0, 3, .inl (fun _ => iI 0))) :: (q2, .inl (cA 0, 3, .inl (fun _ => iI 0))) :: (q1, .inl (cA 0, 24, .inl (fun _ => iI 0))) :: (h, .inr (8, [.ref q1, .ref q2, .ref q3, .ref q4, .null, .null, .null, .null, .null, .null, .int (iI 0), .null, .null, .null, .null, .int (iI 0), .null, .null, .null, .int (iI 0), .null, .null, .null, .int (iI 0), .int (iI 0), .null, .null, .null, .null, .null, .null, .null, .null, .int (iI 0)])) :: w72 cA ad (sg0 T)) 4 dX8_init_32 lq_X8_21 rfl rfl rfl (Nat.lt_of_succ_le (Nat.le_of_ble_eq_true rfl)) rfl rfl ?_
  refine c_aload X 0 dX8_init_35 rfl ?_
  refine c_iconst X dX8_init_36 ?_
  refine c_newL X (N := 3) (cells' := 5) (slots' := 183) dX8_init_37 (wmem 134 (by decide +kernel) rfl) rfl (Nat.le_of_ble_eq_true rfl) (Nat.le_of_ble_eq_true rfl) rfl rfl ⟨(Nat.le_of_ble_eq_true rfl), (Nat.le_of_ble_eq_true rfl)⟩ (fun q5 => ?_)
  refine c_putF X hin9 (fs' := [.ref q1, .ref q2, .ref q3, .ref q4, .ref q5, .null, .null, .null, .null, .null, .int (iI 0), .null, .null, .null, .null, .int (iI 0), .null, .null, .null, .int (iI 0), .null, .null, .null, .int (iI 0), .int (iI 0), .null, .null, .null, .null, .null, .null, .null, .null, .int (iI 0)]) (ws' := (q5, .inl (cA 1, 3, .inr (.inl (fun _ => lI 0)))) :: (q4, .inl (cA 1, 150, .inr (.inl (fun _ => lI 0)))) :: (q3, .inl (cA 0, 3, .inl (fun _ => iI 0))) :: (q2, .inl (cA 0, 3, .inl (fun _ => iI 0))) :: (q1, .inl (cA 0, 24, .inl (fun _ => iI 0))) :: (h, .inr (8, [.ref q1, .ref q2, .ref q3, .ref q4, .ref q5, .null, .null, .null, .null, .null, .int (iI 0), .null, .null, .null, .null, .int (iI 0), .null, .null, .null, .int (iI 0), .null, .null, .null, .int (iI 0), .int (iI 0), .null, .null, .null, .null, .null, .null, .null, .null, .int (iI 0)])) :: w72 cA ad (sg0 T)) 5 dX8_init_39 lq_X8_25 rfl rfl rfl (Nat.lt_of_succ_le (Nat.le_of_ble_eq_true rfl)) rfl rfl ?_
  refine c_aload X 0 dX8_init_42 rfl ?_
  refine c_bipush X dX8_init_43 (by decide +kernel) ?_
  refine c_newI X (N := 6) (cells' := 6) (slots' := 189) dX8_init_45 (wmem 84 (by decide +kernel) rfl) rfl (Nat.le_of_ble_eq_true rfl) (Nat.le_of_ble_eq_true rfl) rfl rfl ⟨(Nat.le_of_ble_eq_true rfl), (Nat.le_of_ble_eq_true rfl)⟩ (fun q6 => ?_)
  refine c_putF X hin9 (fs' := [.ref q1, .ref q2, .ref q3, .ref q4, .ref q5, .ref q6, .null, .null, .null, .null, .int (iI 0), .null, .null, .null, .null, .int (iI 0), .null, .null, .null, .int (iI 0), .null, .null, .null, .int (iI 0), .int (iI 0), .null, .null, .null, .null, .null, .null, .null, .null, .int (iI 0)]) (ws' := (q6, .inl (cA 0, 6, .inl (fun _ => iI 0))) :: (q5, .inl (cA 1, 3, .inr (.inl (fun _ => lI 0)))) :: (q4, .inl (cA 1, 150, .inr (.inl (fun _ => lI 0)))) :: (q3, .inl (cA 0, 3, .inl (fun _ => iI 0))) :: (q2, .inl (cA 0, 3, .inl (fun _ => iI 0))) :: (q1, .inl (cA 0, 24, .inl (fun _ => iI 0))) :: (h, .inr (8, [.ref q1, .ref q2, .ref q3, .ref q4, .ref q5, .ref q6, .null, .null, .null, .null, .int (iI 0), .null, .null, .null, .null, .int (iI 0), .null, .null, .null, .int (iI 0), .null, .null, .null, .int (iI 0), .int (iI 0), .null, .null, .null, .null, .null, .null, .null, .null, .int (iI 0)])) :: w72 cA ad (sg0 T)) 6 dX8_init_47 lq_X8_28 rfl rfl rfl (Nat.lt_of_succ_le (Nat.le_of_ble_eq_true rfl)) rfl rfl ?_
  refine c_aload X 0 dX8_init_50 rfl ?_
  refine c_sipush X dX8_init_51 (by decide +kernel) ?_
  refine c_newI X (N := 300) (cells' := 7) (slots' := 489) dX8_init_54 (wmem 84 (by decide +kernel) rfl) rfl (Nat.le_of_ble_eq_true rfl) (Nat.le_of_ble_eq_true rfl) rfl rfl ⟨(Nat.le_of_ble_eq_true rfl), (Nat.le_of_ble_eq_true rfl)⟩ (fun q7 => ?_)
  refine c_putF X hin9 (fs' := [.ref q1, .ref q2, .ref q3, .ref q4, .ref q5, .ref q6, .ref q7, .null, .null, .null, .int (iI 0), .null, .null, .null, .null, .int (iI 0), .null, .null, .null, .int (iI 0), .null, .null, .null, .int (iI 0), .int (iI 0), .null, .null, .null, .null, .null, .null, .null, .null, .int (iI 0)]) (ws' := (q7, .inl (cA 0, 300, .inl (fun _ => iI 0))) :: (q6, .inl (cA 0, 6, .inl (fun _ => iI 0))) :: (q5, .inl (cA 1, 3, .inr (.inl (fun _ => lI 0)))) :: (q4, .inl (cA 1, 150, .inr (.inl (fun _ => lI 0)))) :: (q3, .inl (cA 0, 3, .inl (fun _ => iI 0))) :: (q2, .inl (cA 0, 3, .inl (fun _ => iI 0))) :: (q1, .inl (cA 0, 24, .inl (fun _ => iI 0))) :: (h, .inr (8, [.ref q1, .ref q2, .ref q3, .ref q4, .ref q5, .ref q6, .ref q7, .null, .null, .null, .int (iI 0), .null, .null, .null, .null, .int (iI 0), .null, .null, .null, .int (iI 0), .null, .null, .null, .int (iI 0), .int (iI 0), .null, .null, .null, .null, .null, .null, .null, .null, .int (iI 0)])) :: w72 cA ad (sg0 T)) 7 dX8_init_56 lq_X8_31 rfl rfl rfl (Nat.lt_of_succ_le (Nat.le_of_ble_eq_true rfl)) rfl rfl ?_
  refine c_aload X 0 dX8_init_59 rfl ?_
  refine c_bipush X dX8_init_60 (by decide +kernel) ?_
  refine c_newI X (N := 50) (cells' := 8) (slots' := 539) dX8_init_62 (wmem 84 (by decide +kernel) rfl) rfl (Nat.le_of_ble_eq_true rfl) (Nat.le_of_ble_eq_true rfl) rfl rfl ⟨(Nat.le_of_ble_eq_true rfl), (Nat.le_of_ble_eq_true rfl)⟩ (fun q8 => ?_)
  refine c_putF X hin9 (fs' := [.ref q1, .ref q2, .ref q3, .ref q4, .ref q5, .ref q6, .ref q7, .ref q8, .null, .null, .int (iI 0), .null, .null, .null, .null, .int (iI 0), .null, .null, .null, .int (iI 0), .null, .null, .null, .int (iI 0), .int (iI 0), .null, .null, .null, .null, .null, .null, .null, .null, .int (iI 0)]) (ws' := (q8, .inl (cA 0, 50, .inl (fun _ => iI 0))) :: (q7, .inl (cA 0, 300, .inl (fun _ => iI 0))) :: (q6, .inl (cA 0, 6, .inl (fun _ => iI 0))) :: (q5, .inl (cA 1, 3, .inr (.inl (fun _ => lI 0)))) :: (q4, .inl (cA 1, 150, .inr (.inl (fun _ => lI 0)))) :: (q3, .inl (cA 0, 3, .inl (fun _ => iI 0))) :: (q2, .inl (cA 0, 3, .inl (fun _ => iI 0))) :: (q1, .inl (cA 0, 24, .inl (fun _ => iI 0))) :: (h, .inr (8, [.ref q1, .ref q2, .ref q3, .ref q4, .ref q5, .ref q6, .ref q7, .ref q8, .null, .null, .int (iI 0), .null, .null, .null, .null, .int (iI 0), .null, .null, .null, .int (iI 0), .null, .null, .null, .int (iI 0), .int (iI 0), .null, .null, .null, .null, .null, .null, .null, .null, .int (iI 0)])) :: w72 cA ad (sg0 T)) 8 dX8_init_64 lq_X8_34 rfl rfl rfl (Nat.lt_of_succ_le (Nat.le_of_ble_eq_true rfl)) rfl rfl ?_
  refine c_aload X 0 dX8_init_67 rfl ?_
  refine c_bipush X dX8_init_68 (by decide +kernel) ?_
  refine c_newI X (N := 12) (cells' := 9) (slots' := 551) dX8_init_70 (wmem 84 (by decide +kernel) rfl) rfl (Nat.le_of_ble_eq_true rfl) (Nat.le_of_ble_eq_true rfl) rfl rfl ⟨(Nat.le_of_ble_eq_true rfl), (Nat.le_of_ble_eq_true rfl)⟩ (fun q9 => ?_)
  refine c_putF X hin9 (fs' := [.ref q1, .ref q2, .ref q3, .ref q4, .ref q5, .ref q6, .ref q7, .ref q8, .ref q9, .null, .int (iI 0), .null, .null, .null, .null, .int (iI 0), .null, .null, .null, .int (iI 0), .null, .null, .null, .int (iI 0), .int (iI 0), .null, .null, .null, .null, .null, .null, .null, .null, .int (iI 0)]) (ws' := (q9, .inl (cA 0, 12, .inl (fun _ => iI 0))) :: (q8, .inl (cA 0, 50, .inl (fun _ => iI 0))) :: (q7, .inl (cA 0, 300, .inl (fun _ => iI 0))) :: (q6, .inl (cA 0, 6, .inl (fun _ => iI 0))) :: (q5, .inl (cA 1, 3, .inr (.inl (fun _ => lI 0)))) :: (q4, .inl (cA 1, 150, .inr (.inl (fun _ => lI 0)))) :: (q3, .inl (cA 0, 3, .inl (fun _ => iI 0))) :: (q2, .inl (cA 0, 3, .inl (fun _ => iI 0))) :: (q1, .inl (cA 0, 24, .inl (fun _ => iI 0))) :: (h, .inr (8, [.ref q1, .ref q2, .ref q3, .ref q4, .ref q5, .ref q6, .ref q7, .ref q8, .ref q9, .null, .int (iI 0), .null, .null, .null, .null, .int (iI 0), .null, .null, .null, .int (iI 0), .null, .null, .null, .int (iI 0), .int (iI 0), .null, .null, .null, .null, .null, .null, .null, .null, .int (iI 0)])) :: w72 cA ad (sg0 T)) 9 dX8_init_72 lq_X8_37 rfl rfl rfl (Nat.lt_of_succ_le (Nat.le_of_ble_eq_true rfl)) rfl rfl ?_
  refine c_aload X 0 dX8_init_75 rfl ?_
  refine c_sipush X dX8_init_76 (by decide +kernel) ?_
  refine c_newI X (N := 600) (cells' := 10) (slots' := 1151) dX8_init_79 (wmem 84 (by decide +kernel) rfl) rfl (Nat.le_of_ble_eq_true rfl) (Nat.le_of_ble_eq_true rfl) rfl rfl ⟨(Nat.le_of_ble_eq_true rfl), (Nat.le_of_ble_eq_true rfl)⟩ (fun q10 => ?_)
  refine c_putF X hin9 (fs' := [.ref q1, .ref q2, .ref q3, .ref q4, .ref q5, .ref q6, .ref q7, .ref q8, .ref q9, .ref q10, .int (iI 0), .null, .null, .null, .null, .int (iI 0), .null, .null, .null, .int (iI 0), .null, .null, .null, .int (iI 0), .int (iI 0), .null, .null, .null, .null, .null, .null, .null, .null, .int (iI 0)]) (ws' := (q10, .inl (cA 0, 600, .inl (fun _ => iI 0))) :: (q9, .inl (cA 0, 12, .inl (fun _ => iI 0))) :: (q8, .inl (cA 0, 50, .inl (fun _ => iI 0))) :: (q7, .inl (cA 0, 300, .inl (fun _ => iI 0))) :: (q6, .inl (cA 0, 6, .inl (fun _ => iI 0))) :: (q5, .inl (cA 1, 3, .inr (.inl (fun _ => lI 0)))) :: (q4, .inl (cA 1, 150, .inr (.inl (fun _ => lI 0)))) :: (q3, .inl (cA 0, 3, .inl (fun _ => iI 0))) :: (q2, .inl (cA 0, 3, .inl (fun _ => iI 0))) :: (q1, .inl (cA 0, 24, .inl (fun _ => iI 0))) :: (h, .inr (8, [.ref q1, .ref q2, .ref q3, .ref q4, .ref q5, .ref q6, .ref q7, .ref q8, .ref q9, .ref q10, .int (iI 0), .null, .null, .null, .null, .int (iI 0), .null, .null, .null, .int (iI 0), .null, .null, .null, .int (iI 0), .int (iI 0), .null, .null, .null, .null, .null, .null, .null, .null, .int (iI 0)])) :: w72 cA ad (sg0 T)) 10 dX8_init_81 lq_X8_40 rfl rfl rfl (Nat.lt_of_succ_le (Nat.le_of_ble_eq_true rfl)) rfl rfl ?_
  refine c_aload X 0 dX8_init_84 rfl ?_
  refine c_sipush X dX8_init_85 (by decide +kernel) ?_
  refine c_newL X (N := 16384) (cells' := 11) (slots' := 17535) dX8_init_88 (wmem 134 (by decide +kernel) rfl) rfl (Nat.le_of_ble_eq_true rfl) (Nat.le_of_ble_eq_true rfl) rfl rfl ⟨(Nat.le_of_ble_eq_true rfl), (Nat.le_of_ble_eq_true rfl)⟩ (fun q11 => ?_)
  refine c_putF X hin9 (fs' := [.ref q1, .ref q2, .ref q3, .ref q4, .ref q5, .ref q6, .ref q7, .ref q8, .ref q9, .ref q10, .int (iI 0), .ref q11, .null, .null, .null, .int (iI 0), .null, .null, .null, .int (iI 0), .null, .null, .null, .int (iI 0), .int (iI 0), .null, .null, .null, .null, .null, .null, .null, .null, .int (iI 0)]) (ws' := (q11, .inl (cA 1, 16384, .inr (.inl (fun _ => lI 0)))) :: (q10, .inl (cA 0, 600, .inl (fun _ => iI 0))) :: (q9, .inl (cA 0, 12, .inl (fun _ => iI 0))) :: (q8, .inl (cA 0, 50, .inl (fun _ => iI 0))) :: (q7, .inl (cA 0, 300, .inl (fun _ => iI 0))) :: (q6, .inl (cA 0, 6, .inl (fun _ => iI 0))) :: (q5, .inl (cA 1, 3, .inr (.inl (fun _ => lI 0)))) :: (q4, .inl (cA 1, 150, .inr (.inl (fun _ => lI 0)))) :: (q3, .inl (cA 0, 3, .inl (fun _ => iI 0))) :: (q2, .inl (cA 0, 3, .inl (fun _ => iI 0))) :: (q1, .inl (cA 0, 24, .inl (fun _ => iI 0))) :: (h, .inr (8, [.ref q1, .ref q2, .ref q3, .ref q4, .ref q5, .ref q6, .ref q7, .ref q8, .ref q9, .ref q10, .int (iI 0), .ref q11, .null, .null, .null, .int (iI 0), .null, .null, .null, .int (iI 0), .null, .null, .null, .int (iI 0), .int (iI 0), .null, .null, .null, .null, .null, .null, .null, .null, .int (iI 0)])) :: w72 cA ad (sg0 T)) 11 dX8_init_90 lq_X8_43 rfl rfl rfl (Nat.lt_of_succ_le (Nat.le_of_ble_eq_true rfl)) rfl rfl ?_
  refine c_aload X 0 dX8_init_93 rfl ?_
  refine c_sipush X dX8_init_94 (by decide +kernel) ?_
  refine c_newL X (N := 16384) (cells' := 12) (slots' := 33919) dX8_init_97 (wmem 134 (by decide +kernel) rfl) rfl (Nat.le_of_ble_eq_true rfl) (Nat.le_of_ble_eq_true rfl) rfl rfl ⟨(Nat.le_of_ble_eq_true rfl), (Nat.le_of_ble_eq_true rfl)⟩ (fun q12 => ?_)
  refine c_putF X hin9 (fs' := [.ref q1, .ref q2, .ref q3, .ref q4, .ref q5, .ref q6, .ref q7, .ref q8, .ref q9, .ref q10, .int (iI 0), .ref q11, .ref q12, .null, .null, .int (iI 0), .null, .null, .null, .int (iI 0), .null, .null, .null, .int (iI 0), .int (iI 0), .null, .null, .null, .null, .null, .null, .null, .null, .int (iI 0)]) (ws' := (q12, .inl (cA 1, 16384, .inr (.inl (fun _ => lI 0)))) :: (q11, .inl (cA 1, 16384, .inr (.inl (fun _ => lI 0)))) :: (q10, .inl (cA 0, 600, .inl (fun _ => iI 0))) :: (q9, .inl (cA 0, 12, .inl (fun _ => iI 0))) :: (q8, .inl (cA 0, 50, .inl (fun _ => iI 0))) :: (q7, .inl (cA 0, 300, .inl (fun _ => iI 0))) :: (q6, .inl (cA 0, 6, .inl (fun _ => iI 0))) :: (q5, .inl (cA 1, 3, .inr (.inl (fun _ => lI 0)))) :: (q4, .inl (cA 1, 150, .inr (.inl (fun _ => lI 0)))) :: (q3, .inl (cA 0, 3, .inl (fun _ => iI 0))) :: (q2, .inl (cA 0, 3, .inl (fun _ => iI 0))) :: (q1, .inl (cA 0, 24, .inl (fun _ => iI 0))) :: (h, .inr (8, [.ref q1, .ref q2, .ref q3, .ref q4, .ref q5, .ref q6, .ref q7, .ref q8, .ref q9, .ref q10, .int (iI 0), .ref q11, .ref q12, .null, .null, .int (iI 0), .null, .null, .null, .int (iI 0), .null, .null, .null, .int (iI 0), .int (iI 0), .null, .null, .null, .null, .null, .null, .null, .null, .int (iI 0)])) :: w72 cA ad (sg0 T)) 12 dX8_init_99 lq_X8_46 rfl rfl rfl (Nat.lt_of_succ_le (Nat.le_of_ble_eq_true rfl)) rfl rfl ?_
  refine c_aload X 0 dX8_init_102 rfl ?_
  refine c_sipush X dX8_init_103 (by decide +kernel) ?_
  refine c_newI X (N := 16384) (cells' := 13) (slots' := 50303) dX8_init_106 (wmem 84 (by decide +kernel) rfl) rfl (Nat.le_of_ble_eq_true rfl) (Nat.le_of_ble_eq_true rfl) rfl rfl ⟨(Nat.le_of_ble_eq_true rfl), (Nat.le_of_ble_eq_true rfl)⟩ (fun q13 => ?_)
  refine c_putF X hin9 (fs' := [.ref q1, .ref q2, .ref q3, .ref q4, .ref q5, .ref q6, .ref q7, .ref q8, .ref q9, .ref q10, .int (iI 0), .ref q11, .ref q12, .ref q13, .null, .int (iI 0), .null, .null, .null, .int (iI 0), .null, .null, .null, .int (iI 0), .int (iI 0), .null, .null, .null, .null, .null, .null, .null, .null, .int (iI 0)]) (ws' := (q13, .inl (cA 0, 16384, .inl (fun _ => iI 0))) :: (q12, .inl (cA 1, 16384, .inr (.inl (fun _ => lI 0)))) :: (q11, .inl (cA 1, 16384, .inr (.inl (fun _ => lI 0)))) :: (q10, .inl (cA 0, 600, .inl (fun _ => iI 0))) :: (q9, .inl (cA 0, 12, .inl (fun _ => iI 0))) :: (q8, .inl (cA 0, 50, .inl (fun _ => iI 0))) :: (q7, .inl (cA 0, 300, .inl (fun _ => iI 0))) :: (q6, .inl (cA 0, 6, .inl (fun _ => iI 0))) :: (q5, .inl (cA 1, 3, .inr (.inl (fun _ => lI 0)))) :: (q4, .inl (cA 1, 150, .inr (.inl (fun _ => lI 0)))) :: (q3, .inl (cA 0, 3, .inl (fun _ => iI 0))) :: (q2, .inl (cA 0, 3, .inl (fun _ => iI 0))) :: (q1, .inl (cA 0, 24, .inl (fun _ => iI 0))) :: (h, .inr (8, [.ref q1, .ref q2, .ref q3, .ref q4, .ref q5, .ref q6, .ref q7, .ref q8, .ref q9, .ref q10, .int (iI 0), .ref q11, .ref q12, .ref q13, .null, .int (iI 0), .null, .null, .null, .int (iI 0), .null, .null, .null, .int (iI 0), .int (iI 0), .null, .null, .null, .null, .null, .null, .null, .null, .int (iI 0)])) :: w72 cA ad (sg0 T)) 13 dX8_init_108 lq_X8_49 rfl rfl rfl (Nat.lt_of_succ_le (Nat.le_of_ble_eq_true rfl)) rfl rfl ?_
  refine c_aload X 0 dX8_init_111 rfl ?_
  refine c_sipush X dX8_init_112 (by decide +kernel) ?_
  refine c_newI X (N := 16384) (cells' := 14) (slots' := 66687) dX8_init_115 (wmem 84 (by decide +kernel) rfl) rfl (Nat.le_of_ble_eq_true rfl) (Nat.le_of_ble_eq_true rfl) rfl rfl ⟨(Nat.le_of_ble_eq_true rfl), (Nat.le_of_ble_eq_true rfl)⟩ (fun q14 => ?_)
  refine c_putF X hin9 (fs' := [.ref q1, .ref q2, .ref q3, .ref q4, .ref q5, .ref q6, .ref q7, .ref q8, .ref q9, .ref q10, .int (iI 0), .ref q11, .ref q12, .ref q13, .ref q14, .int (iI 0), .null, .null, .null, .int (iI 0), .null, .null, .null, .int (iI 0), .int (iI 0), .null, .null, .null, .null, .null, .null, .null, .null, .int (iI 0)]) (ws' := (q14, .inl (cA 0, 16384, .inl (fun _ => iI 0))) :: (q13, .inl (cA 0, 16384, .inl (fun _ => iI 0))) :: (q12, .inl (cA 1, 16384, .inr (.inl (fun _ => lI 0)))) :: (q11, .inl (cA 1, 16384, .inr (.inl (fun _ => lI 0)))) :: (q10, .inl (cA 0, 600, .inl (fun _ => iI 0))) :: (q9, .inl (cA 0, 12, .inl (fun _ => iI 0))) :: (q8, .inl (cA 0, 50, .inl (fun _ => iI 0))) :: (q7, .inl (cA 0, 300, .inl (fun _ => iI 0))) :: (q6, .inl (cA 0, 6, .inl (fun _ => iI 0))) :: (q5, .inl (cA 1, 3, .inr (.inl (fun _ => lI 0)))) :: (q4, .inl (cA 1, 150, .inr (.inl (fun _ => lI 0)))) :: (q3, .inl (cA 0, 3, .inl (fun _ => iI 0))) :: (q2, .inl (cA 0, 3, .inl (fun _ => iI 0))) :: (q1, .inl (cA 0, 24, .inl (fun _ => iI 0))) :: (h, .inr (8, [.ref q1, .ref q2, .ref q3, .ref q4, .ref q5, .ref q6, .ref q7, .ref q8, .ref q9, .ref q10, .int (iI 0), .ref q11, .ref q12, .ref q13, .ref q14, .int (iI 0), .null, .null, .null, .int (iI 0), .null, .null, .null, .int (iI 0), .int (iI 0), .null, .null, .null, .null, .null, .null, .null, .null, .int (iI 0)])) :: w72 cA ad (sg0 T)) 14 dX8_init_117 lq_X8_52 rfl rfl rfl (Nat.lt_of_succ_le (Nat.le_of_ble_eq_true rfl)) rfl rfl ?_
  refine c_aload X 0 dX8_init_120 rfl ?_
  refine c_sipush X dX8_init_121 (by decide +kernel) ?_
  refine c_newL X (N := 16384) (cells' := 15) (slots' := 83071) dX8_init_124 (wmem 134 (by decide +kernel) rfl) rfl (Nat.le_of_ble_eq_true rfl) (Nat.le_of_ble_eq_true rfl) rfl rfl ⟨(Nat.le_of_ble_eq_true rfl), (Nat.le_of_ble_eq_true rfl)⟩ (fun q15 => ?_)
  refine c_putF X hin9 (fs' := [.ref q1, .ref q2, .ref q3, .ref q4, .ref q5, .ref q6, .ref q7, .ref q8, .ref q9, .ref q10, .int (iI 0), .ref q11, .ref q12, .ref q13, .ref q14, .int (iI 0), .ref q15, .null, .null, .int (iI 0), .null, .null, .null, .int (iI 0), .int (iI 0), .null, .null, .null, .null, .null, .null, .null, .null, .int (iI 0)]) (ws' := (q15, .inl (cA 1, 16384, .inr (.inl (fun _ => lI 0)))) :: (q14, .inl (cA 0, 16384, .inl (fun _ => iI 0))) :: (q13, .inl (cA 0, 16384, .inl (fun _ => iI 0))) :: (q12, .inl (cA 1, 16384, .inr (.inl (fun _ => lI 0)))) :: (q11, .inl (cA 1, 16384, .inr (.inl (fun _ => lI 0)))) :: (q10, .inl (cA 0, 600, .inl (fun _ => iI 0))) :: (q9, .inl (cA 0, 12, .inl (fun _ => iI 0))) :: (q8, .inl (cA 0, 50, .inl (fun _ => iI 0))) :: (q7, .inl (cA 0, 300, .inl (fun _ => iI 0))) :: (q6, .inl (cA 0, 6, .inl (fun _ => iI 0))) :: (q5, .inl (cA 1, 3, .inr (.inl (fun _ => lI 0)))) :: (q4, .inl (cA 1, 150, .inr (.inl (fun _ => lI 0)))) :: (q3, .inl (cA 0, 3, .inl (fun _ => iI 0))) :: (q2, .inl (cA 0, 3, .inl (fun _ => iI 0))) :: (q1, .inl (cA 0, 24, .inl (fun _ => iI 0))) :: (h, .inr (8, [.ref q1, .ref q2, .ref q3, .ref q4, .ref q5, .ref q6, .ref q7, .ref q8, .ref q9, .ref q10, .int (iI 0), .ref q11, .ref q12, .ref q13, .ref q14, .int (iI 0), .ref q15, .null, .null, .int (iI 0), .null, .null, .null, .int (iI 0), .int (iI 0), .null, .null, .null, .null, .null, .null, .null, .null, .int (iI 0)])) :: w72 cA ad (sg0 T)) 15 dX8_init_126 lq_X8_55 rfl rfl rfl (Nat.lt_of_succ_le (Nat.le_of_ble_eq_true rfl)) rfl rfl ?_
  refine c_aload X 0 dX8_init_129 rfl ?_
  refine c_sipush X dX8_init_130 (by decide +kernel) ?_
  refine c_newL X (N := 16384) (cells' := 16) (slots' := 99455) dX8_init_133 (wmem 134 (by decide +kernel) rfl) rfl (Nat.le_of_ble_eq_true rfl) (Nat.le_of_ble_eq_true rfl) rfl rfl ⟨(Nat.le_of_ble_eq_true rfl), (Nat.le_of_ble_eq_true rfl)⟩ (fun q16 => ?_)
  refine c_putF X hin9 (fs' := [.ref q1, .ref q2, .ref q3, .ref q4, .ref q5, .ref q6, .ref q7, .ref q8, .ref q9, .ref q10, .int (iI 0), .ref q11, .ref q12, .ref q13, .ref q14, .int (iI 0), .ref q15, .ref q16, .null, .int (iI 0), .null, .null, .null, .int (iI 0), .int (iI 0), .null, .null, .null, .null, .null, .null, .null, .null, .int (iI 0)]) (ws' := (q16, .inl (cA 1, 16384, .inr (.inl (fun _ => lI 0)))) :: (q15, .inl (cA 1, 16384, .inr (.inl (fun _ => lI 0)))) :: (q14, .inl (cA 0, 16384, .inl (fun _ => iI 0))) :: (q13, .inl (cA 0, 16384, .inl (fun _ => iI 0))) :: (q12, .inl (cA 1, 16384, .inr (.inl (fun _ => lI 0)))) :: (q11, .inl (cA 1, 16384, .inr (.inl (fun _ => lI 0)))) :: (q10, .inl (cA 0, 600, .inl (fun _ => iI 0))) :: (q9, .inl (cA 0, 12, .inl (fun _ => iI 0))) :: (q8, .inl (cA 0, 50, .inl (fun _ => iI 0))) :: (q7, .inl (cA 0, 300, .inl (fun _ => iI 0))) :: (q6, .inl (cA 0, 6, .inl (fun _ => iI 0))) :: (q5, .inl (cA 1, 3, .inr (.inl (fun _ => lI 0)))) :: (q4, .inl (cA 1, 150, .inr (.inl (fun _ => lI 0)))) :: (q3, .inl (cA 0, 3, .inl (fun _ => iI 0))) :: (q2, .inl (cA 0, 3, .inl (fun _ => iI 0))) :: (q1, .inl (cA 0, 24, .inl (fun _ => iI 0))) :: (h, .inr (8, [.ref q1, .ref q2, .ref q3, .ref q4, .ref q5, .ref q6, .ref q7, .ref q8, .ref q9, .ref q10, .int (iI 0), .ref q11, .ref q12, .ref q13, .ref q14, .int (iI 0), .ref q15, .ref q16, .null, .int (iI 0), .null, .null, .null, .int (iI 0), .int (iI 0), .null, .null, .null, .null, .null, .null, .null, .null, .int (iI 0)])) :: w72 cA ad (sg0 T)) 16 dX8_init_135 lq_X8_58 rfl rfl rfl (Nat.lt_of_succ_le (Nat.le_of_ble_eq_true rfl)) rfl rfl ?_
  refine c_aload X 0 dX8_init_138 rfl ?_
  refine c_sipush X dX8_init_139 (by decide +kernel) ?_
  refine c_newI X (N := 16384) (cells' := 17) (slots' := 115839) dX8_init_142 (wmem 84 (by decide +kernel) rfl) rfl (Nat.le_of_ble_eq_true rfl) (Nat.le_of_ble_eq_true rfl) rfl rfl ⟨(Nat.le_of_ble_eq_true rfl), (Nat.le_of_ble_eq_true rfl)⟩ (fun q17 => ?_)
  refine c_putF X hin9 (fs' := [.ref q1, .ref q2, .ref q3, .ref q4, .ref q5, .ref q6, .ref q7, .ref q8, .ref q9, .ref q10, .int (iI 0), .ref q11, .ref q12, .ref q13, .ref q14, .int (iI 0), .ref q15, .ref q16, .ref q17, .int (iI 0), .null, .null, .null, .int (iI 0), .int (iI 0), .null, .null, .null, .null, .null, .null, .null, .null, .int (iI 0)]) (ws' := (q17, .inl (cA 0, 16384, .inl (fun _ => iI 0))) :: (q16, .inl (cA 1, 16384, .inr (.inl (fun _ => lI 0)))) :: (q15, .inl (cA 1, 16384, .inr (.inl (fun _ => lI 0)))) :: (q14, .inl (cA 0, 16384, .inl (fun _ => iI 0))) :: (q13, .inl (cA 0, 16384, .inl (fun _ => iI 0))) :: (q12, .inl (cA 1, 16384, .inr (.inl (fun _ => lI 0)))) :: (q11, .inl (cA 1, 16384, .inr (.inl (fun _ => lI 0)))) :: (q10, .inl (cA 0, 600, .inl (fun _ => iI 0))) :: (q9, .inl (cA 0, 12, .inl (fun _ => iI 0))) :: (q8, .inl (cA 0, 50, .inl (fun _ => iI 0))) :: (q7, .inl (cA 0, 300, .inl (fun _ => iI 0))) :: (q6, .inl (cA 0, 6, .inl (fun _ => iI 0))) :: (q5, .inl (cA 1, 3, .inr (.inl (fun _ => lI 0)))) :: (q4, .inl (cA 1, 150, .inr (.inl (fun _ => lI 0)))) :: (q3, .inl (cA 0, 3, .inl (fun _ => iI 0))) :: (q2, .inl (cA 0, 3, .inl (fun _ => iI 0))) :: (q1, .inl (cA 0, 24, .inl (fun _ => iI 0))) :: (h, .inr (8, [.ref q1, .ref q2, .ref q3, .ref q4, .ref q5, .ref q6, .ref q7, .ref q8, .ref q9, .ref q10, .int (iI 0), .ref q11, .ref q12, .ref q13, .ref q14, .int (iI 0), .ref q15, .ref q16, .ref q17, .int (iI 0), .null, .null, .null, .int (iI 0), .int (iI 0), .null, .null, .null, .null, .null, .null, .null, .null, .int (iI 0)])) :: w72 cA ad (sg0 T)) 17 dX8_init_144 lq_X8_61 rfl rfl rfl (Nat.lt_of_succ_le (Nat.le_of_ble_eq_true rfl)) rfl rfl ?_
  refine c_aload X 0 dX8_init_147 rfl ?_
  refine c_bipush X dX8_init_148 (by decide +kernel) ?_
  refine c_newI X (N := 50) (cells' := 18) (slots' := 115889) dX8_init_150 (wmem 84 (by decide +kernel) rfl) rfl (Nat.le_of_ble_eq_true rfl) (Nat.le_of_ble_eq_true rfl) rfl rfl ⟨(Nat.le_of_ble_eq_true rfl), (Nat.le_of_ble_eq_true rfl)⟩ (fun q18 => ?_)
  refine c_putF X hin9 (fs' := [.ref q1, .ref q2, .ref q3, .ref q4, .ref q5, .ref q6, .ref q7, .ref q8, .ref q9, .ref q10, .int (iI 0), .ref q11, .ref q12, .ref q13, .ref q14, .int (iI 0), .ref q15, .ref q16, .ref q17, .int (iI 0), .ref q18, .null, .null, .int (iI 0), .int (iI 0), .null, .null, .null, .null, .null, .null, .null, .null, .int (iI 0)]) (ws' := (q18, .inl (cA 0, 50, .inl (fun _ => iI 0))) :: (q17, .inl (cA 0, 16384, .inl (fun _ => iI 0))) :: (q16, .inl (cA 1, 16384, .inr (.inl (fun _ => lI 0)))) :: (q15, .inl (cA 1, 16384, .inr (.inl (fun _ => lI 0)))) :: (q14, .inl (cA 0, 16384, .inl (fun _ => iI 0))) :: (q13, .inl (cA 0, 16384, .inl (fun _ => iI 0))) :: (q12, .inl (cA 1, 16384, .inr (.inl (fun _ => lI 0)))) :: (q11, .inl (cA 1, 16384, .inr (.inl (fun _ => lI 0)))) :: (q10, .inl (cA 0, 600, .inl (fun _ => iI 0))) :: (q9, .inl (cA 0, 12, .inl (fun _ => iI 0))) :: (q8, .inl (cA 0, 50, .inl (fun _ => iI 0))) :: (q7, .inl (cA 0, 300, .inl (fun _ => iI 0))) :: (q6, .inl (cA 0, 6, .inl (fun _ => iI 0))) :: (q5, .inl (cA 1, 3, .inr (.inl (fun _ => lI 0)))) :: (q4, .inl (cA 1, 150, .inr (.inl (fun _ => lI 0)))) :: (q3, .inl (cA 0, 3, .inl (fun _ => iI 0))) :: (q2, .inl (cA 0, 3, .inl (fun _ => iI 0))) :: (q1, .inl (cA 0, 24, .inl (fun _ => iI 0))) :: (h, .inr (8, [.ref q1, .ref q2, .ref q3, .ref q4, .ref q5, .ref q6, .ref q7, .ref q8, .ref q9, .ref q10, .int (iI 0), .ref q11, .ref q12, .ref q13, .ref q14, .int (iI 0), .ref q15, .ref q16, .ref q17, .int (iI 0), .ref q18, .null, .null, .int (iI 0), .int (iI 0), .null, .null, .null, .null, .null, .null, .null, .null, .int (iI 0)])) :: w72 cA ad (sg0 T)) 18 dX8_init_152 lq_X8_64 rfl rfl rfl (Nat.lt_of_succ_le (Nat.le_of_ble_eq_true rfl)) rfl rfl ?_
  refine c_aload X 0 dX8_init_155 rfl ?_
  refine c_sipush X dX8_init_156 (by decide +kernel) ?_
  refine c_newI X (N := 160) (cells' := 19) (slots' := 116049) dX8_init_159 (wmem 84 (by decide +kernel) rfl) rfl (Nat.le_of_ble_eq_true rfl) (Nat.le_of_ble_eq_true rfl) rfl rfl ⟨(Nat.le_of_ble_eq_true rfl), (Nat.le_of_ble_eq_true rfl)⟩ (fun q19 => ?_)
  refine c_putF X hin9 (fs' := [.ref q1, .ref q2, .ref q3, .ref q4, .ref q5, .ref q6, .ref q7, .ref q8, .ref q9, .ref q10, .int (iI 0), .ref q11, .ref q12, .ref q13, .ref q14, .int (iI 0), .ref q15, .ref q16, .ref q17, .int (iI 0), .ref q18, .ref q19, .null, .int (iI 0), .int (iI 0), .null, .null, .null, .null, .null, .null, .null, .null, .int (iI 0)]) (ws' := (q19, .inl (cA 0, 160, .inl (fun _ => iI 0))) :: (q18, .inl (cA 0, 50, .inl (fun _ => iI 0))) :: (q17, .inl (cA 0, 16384, .inl (fun _ => iI 0))) :: (q16, .inl (cA 1, 16384, .inr (.inl (fun _ => lI 0)))) :: (q15, .inl (cA 1, 16384, .inr (.inl (fun _ => lI 0)))) :: (q14, .inl (cA 0, 16384, .inl (fun _ => iI 0))) :: (q13, .inl (cA 0, 16384, .inl (fun _ => iI 0))) :: (q12, .inl (cA 1, 16384, .inr (.inl (fun _ => lI 0)))) :: (q11, .inl (cA 1, 16384, .inr (.inl (fun _ => lI 0)))) :: (q10, .inl (cA 0, 600, .inl (fun _ => iI 0))) :: (q9, .inl (cA 0, 12, .inl (fun _ => iI 0))) :: (q8, .inl (cA 0, 50, .inl (fun _ => iI 0))) :: (q7, .inl (cA 0, 300, .inl (fun _ => iI 0))) :: (q6, .inl (cA 0, 6, .inl (fun _ => iI 0))) :: (q5, .inl (cA 1, 3, .inr (.inl (fun _ => lI 0)))) :: (q4, .inl (cA 1, 150, .inr (.inl (fun _ => lI 0)))) :: (q3, .inl (cA 0, 3, .inl (fun _ => iI 0))) :: (q2, .inl (cA 0, 3, .inl (fun _ => iI 0))) :: (q1, .inl (cA 0, 24, .inl (fun _ => iI 0))) :: (h, .inr (8, [.ref q1, .ref q2, .ref q3, .ref q4, .ref q5, .ref q6, .ref q7, .ref q8, .ref q9, .ref q10, .int (iI 0), .ref q11, .ref q12, .ref q13, .ref q14, .int (iI 0), .ref q15, .ref q16, .ref q17, .int (iI 0), .ref q18, .ref q19, .null, .int (iI 0), .int (iI 0), .null, .null, .null, .null, .null, .null, .null, .null, .int (iI 0)])) :: w72 cA ad (sg0 T)) 19 dX8_init_161 lq_X8_67 rfl rfl rfl (Nat.lt_of_succ_le (Nat.le_of_ble_eq_true rfl)) rfl rfl ?_
  refine c_aload X 0 dX8_init_164 rfl ?_
  refine c_bipush X dX8_init_165 (by decide +kernel) ?_
  refine c_newI X (N := 80) (cells' := 20) (slots' := 116129) dX8_init_167 (wmem 84 (by decide +kernel) rfl) rfl (Nat.le_of_ble_eq_true rfl) (Nat.le_of_ble_eq_true rfl) rfl rfl ⟨(Nat.le_of_ble_eq_true rfl), (Nat.le_of_ble_eq_true rfl)⟩ (fun q20 => ?_)
  refine c_putF X hin9 (fs' := [.ref q1, .ref q2, .ref q3, .ref q4, .ref q5, .ref q6, .ref q7, .ref q8, .ref q9, .ref q10, .int (iI 0), .ref q11, .ref q12, .ref q13, .ref q14, .int (iI 0), .ref q15, .ref q16, .ref q17, .int (iI 0), .ref q18, .ref q19, .ref q20, .int (iI 0), .int (iI 0), .null, .null, .null, .null, .null, .null, .null, .null, .int (iI 0)]) (ws' := (q20, .inl (cA 0, 80, .inl (fun _ => iI 0))) :: (q19, .inl (cA 0, 160, .inl (fun _ => iI 0))) :: (q18, .inl (cA 0, 50, .inl (fun _ => iI 0))) :: (q17, .inl (cA 0, 16384, .inl (fun _ => iI 0))) :: (q16, .inl (cA 1, 16384, .inr (.inl (fun _ => lI 0)))) :: (q15, .inl (cA 1, 16384, .inr (.inl (fun _ => lI 0)))) :: (q14, .inl (cA 0, 16384, .inl (fun _ => iI 0))) :: (q13, .inl (cA 0, 16384, .inl (fun _ => iI 0))) :: (q12, .inl (cA 1, 16384, .inr (.inl (fun _ => lI 0)))) :: (q11, .inl (cA 1, 16384, .inr (.inl (fun _ => lI 0)))) :: (q10, .inl (cA 0, 600, .inl (fun _ => iI 0))) :: (q9, .inl (cA 0, 12, .inl (fun _ => iI 0))) :: (q8, .inl (cA 0, 50, .inl (fun _ => iI 0))) :: (q7, .inl (cA 0, 300, .inl (fun _ => iI 0))) :: (q6, .inl (cA 0, 6, .inl (fun _ => iI 0))) :: (q5, .inl (cA 1, 3, .inr (.inl (fun _ => lI 0)))) :: (q4, .inl (cA 1, 150, .inr (.inl (fun _ => lI 0)))) :: (q3, .inl (cA 0, 3, .inl (fun _ => iI 0))) :: (q2, .inl (cA 0, 3, .inl (fun _ => iI 0))) :: (q1, .inl (cA 0, 24, .inl (fun _ => iI 0))) :: (h, .inr (8, [.ref q1, .ref q2, .ref q3, .ref q4, .ref q5, .ref q6, .ref q7, .ref q8, .ref q9, .ref q10, .int (iI 0), .ref q11, .ref q12, .ref q13, .ref q14, .int (iI 0), .ref q15, .ref q16, .ref q17, .int (iI 0), .ref q18, .ref q19, .ref q20, .int (iI 0), .int (iI 0), .null, .null, .null, .null, .null, .null, .null, .null, .int (iI 0)])) :: w72 cA ad (sg0 T)) 20 dX8_init_169 lq_X8_70 rfl rfl rfl (Nat.lt_of_succ_le (Nat.le_of_ble_eq_true rfl)) rfl rfl ?_
  refine c_aload X 0 dX8_init_172 rfl ?_
  refine c_iconst X dX8_init_173 ?_
  refine c_newZ X (N := 3) (cells' := 21) (slots' := 116132) dX8_init_174 (wmem 755 (by decide +kernel) rfl) rfl (Nat.le_of_ble_eq_true rfl) (Nat.le_of_ble_eq_true rfl) rfl rfl ⟨(Nat.le_of_ble_eq_true rfl), (Nat.le_of_ble_eq_true rfl)⟩ (fun q21 => ?_)
  refine c_putF X hin9 (fs' := [.ref q1, .ref q2, .ref q3, .ref q4, .ref q5, .ref q6, .ref q7, .ref q8, .ref q9, .ref q10, .int (iI 0), .ref q11, .ref q12, .ref q13, .ref q14, .int (iI 0), .ref q15, .ref q16, .ref q17, .int (iI 0), .ref q18, .ref q19, .ref q20, .int (iI 0), .int (iI 0), .ref q21, .null, .null, .null, .null, .null, .null, .null, .int (iI 0)]) (ws' := (q21, .inl (cA 2, 3, .inl (fun _ => iI 0))) :: (q20, .inl (cA 0, 80, .inl (fun _ => iI 0))) :: (q19, .inl (cA 0, 160, .inl (fun _ => iI 0))) :: (q18, .inl (cA 0, 50, .inl (fun _ => iI 0))) :: (q17, .inl (cA 0, 16384, .inl (fun _ => iI 0))) :: (q16, .inl (cA 1, 16384, .inr (.inl (fun _ => lI 0)))) :: (q15, .inl (cA 1, 16384, .inr (.inl (fun _ => lI 0)))) :: (q14, .inl (cA 0, 16384, .inl (fun _ => iI 0))) :: (q13, .inl (cA 0, 16384, .inl (fun _ => iI 0))) :: (q12, .inl (cA 1, 16384, .inr (.inl (fun _ => lI 0)))) :: (q11, .inl (cA 1, 16384, .inr (.inl (fun _ => lI 0)))) :: (q10, .inl (cA 0, 600, .inl (fun _ => iI 0))) :: (q9, .inl (cA 0, 12, .inl (fun _ => iI 0))) :: (q8, .inl (cA 0, 50, .inl (fun _ => iI 0))) :: (q7, .inl (cA 0, 300, .inl (fun _ => iI 0))) :: (q6, .inl (cA 0, 6, .inl (fun _ => iI 0))) :: (q5, .inl (cA 1, 3, .inr (.inl (fun _ => lI 0)))) :: (q4, .inl (cA 1, 150, .inr (.inl (fun _ => lI 0)))) :: (q3, .inl (cA 0, 3, .inl (fun _ => iI 0))) :: (q2, .inl (cA 0, 3, .inl (fun _ => iI 0))) :: (q1, .inl (cA 0, 24, .inl (fun _ => iI 0))) :: (h, .inr (8, [.ref q1, .ref q2, .ref q3, .ref q4, .ref q5, .ref q6, .ref q7, .ref q8, .ref q9, .ref q10, .int (iI 0), .ref q11, .ref q12, .ref q13, .ref q14, .int (iI 0), .ref q15, .ref q16, .ref q17, .int (iI 0), .ref q18, .ref q19, .ref q20, .int (iI 0), .int (iI 0), .ref q21, .null, .null, .null, .null, .null, .null, .null, .int (iI 0)])) :: w72 cA ad (sg0 T)) 21 dX8_init_176 lq_X8_73 rfl rfl rfl (Nat.lt_of_succ_le (Nat.le_of_ble_eq_true rfl)) rfl rfl ?_
  refine c_aload X 0 dX8_init_179 rfl ?_
  refine c_iconst X dX8_init_180 ?_
  refine c_newI X (N := 3) (cells' := 22) (slots' := 116135) dX8_init_181 (wmem 84 (by decide +kernel) rfl) rfl (Nat.le_of_ble_eq_true rfl) (Nat.le_of_ble_eq_true rfl) rfl rfl ⟨(Nat.le_of_ble_eq_true rfl), (Nat.le_of_ble_eq_true rfl)⟩ (fun q22 => ?_)
  refine c_putF X hin9 (fs' := [.ref q1, .ref q2, .ref q3, .ref q4, .ref q5, .ref q6, .ref q7, .ref q8, .ref q9, .ref q10, .int (iI 0), .ref q11, .ref q12, .ref q13, .ref q14, .int (iI 0), .ref q15, .ref q16, .ref q17, .int (iI 0), .ref q18, .ref q19, .ref q20, .int (iI 0), .int (iI 0), .ref q21, .ref q22, .null, .null, .null, .null, .null, .null, .int (iI 0)]) (ws' := (q22, .inl (cA 0, 3, .inl (fun _ => iI 0))) :: (q21, .inl (cA 2, 3, .inl (fun _ => iI 0))) :: (q20, .inl (cA 0, 80, .inl (fun _ => iI 0))) :: (q19, .inl (cA 0, 160, .inl (fun _ => iI 0))) :: (q18, .inl (cA 0, 50, .inl (fun _ => iI 0))) :: (q17, .inl (cA 0, 16384, .inl (fun _ => iI 0))) :: (q16, .inl (cA 1, 16384, .inr (.inl (fun _ => lI 0)))) :: (q15, .inl (cA 1, 16384, .inr (.inl (fun _ => lI 0)))) :: (q14, .inl (cA 0, 16384, .inl (fun _ => iI 0))) :: (q13, .inl (cA 0, 16384, .inl (fun _ => iI 0))) :: (q12, .inl (cA 1, 16384, .inr (.inl (fun _ => lI 0)))) :: (q11, .inl (cA 1, 16384, .inr (.inl (fun _ => lI 0)))) :: (q10, .inl (cA 0, 600, .inl (fun _ => iI 0))) :: (q9, .inl (cA 0, 12, .inl (fun _ => iI 0))) :: (q8, .inl (cA 0, 50, .inl (fun _ => iI 0))) :: (q7, .inl (cA 0, 300, .inl (fun _ => iI 0))) :: (q6, .inl (cA 0, 6, .inl (fun _ => iI 0))) :: (q5, .inl (cA 1, 3, .inr (.inl (fun _ => lI 0)))) :: (q4, .inl (cA 1, 150, .inr (.inl (fun _ => lI 0)))) :: (q3, .inl (cA 0, 3, .inl (fun _ => iI 0))) :: (q2, .inl (cA 0, 3, .inl (fun _ => iI 0))) :: (q1, .inl (cA 0, 24, .inl (fun _ => iI 0))) :: (h, .inr (8, [.ref q1, .ref q2, .ref q3, .ref q4, .ref q5, .ref q6, .ref q7, .ref q8, .ref q9, .ref q10, .int (iI 0), .ref q11, .ref q12, .ref q13, .ref q14, .int (iI 0), .ref q15, .ref q16, .ref q17, .int (iI 0), .ref q18, .ref q19, .ref q20, .int (iI 0), .int (iI 0), .ref q21, .ref q22, .null, .null, .null, .null, .null, .null, .int (iI 0)])) :: w72 cA ad (sg0 T)) 22 dX8_init_183 lq_X8_77 rfl rfl rfl (Nat.lt_of_succ_le (Nat.le_of_ble_eq_true rfl)) rfl rfl ?_
  refine c_aload X 0 dX8_init_186 rfl ?_
  refine c_sipush X dX8_init_187 (by decide +kernel) ?_
  refine c_newL X (N := 180) (cells' := 23) (slots' := 116315) dX8_init_190 (wmem 134 (by decide +kernel) rfl) rfl (Nat.le_of_ble_eq_true rfl) (Nat.le_of_ble_eq_true rfl) rfl rfl ⟨(Nat.le_of_ble_eq_true rfl), (Nat.le_of_ble_eq_true rfl)⟩ (fun q23 => ?_)
  refine c_putF X hin9 (fs' := [.ref q1, .ref q2, .ref q3, .ref q4, .ref q5, .ref q6, .ref q7, .ref q8, .ref q9, .ref q10, .int (iI 0), .ref q11, .ref q12, .ref q13, .ref q14, .int (iI 0), .ref q15, .ref q16, .ref q17, .int (iI 0), .ref q18, .ref q19, .ref q20, .int (iI 0), .int (iI 0), .ref q21, .ref q22, .ref q23, .null, .null, .null, .null, .null, .int (iI 0)]) (ws' := (q23, .inl (cA 1, 180, .inr (.inl (fun _ => lI 0)))) :: (q22, .inl (cA 0, 3, .inl (fun _ => iI 0))) :: (q21, .inl (cA 2, 3, .inl (fun _ => iI 0))) :: (q20, .inl (cA 0, 80, .inl (fun _ => iI 0))) :: (q19, .inl (cA 0, 160, .inl (fun _ => iI 0))) :: (q18, .inl (cA 0, 50, .inl (fun _ => iI 0))) :: (q17, .inl (cA 0, 16384, .inl (fun _ => iI 0))) :: (q16, .inl (cA 1, 16384, .inr (.inl (fun _ => lI 0)))) :: (q15, .inl (cA 1, 16384, .inr (.inl (fun _ => lI 0)))) :: (q14, .inl (cA 0, 16384, .inl (fun _ => iI 0))) :: (q13, .inl (cA 0, 16384, .inl (fun _ => iI 0))) :: (q12, .inl (cA 1, 16384, .inr (.inl (fun _ => lI 0)))) :: (q11, .inl (cA 1, 16384, .inr (.inl (fun _ => lI 0)))) :: (q10, .inl (cA 0, 600, .inl (fun _ => iI 0))) :: (q9, .inl (cA 0, 12, .inl (fun _ => iI 0))) :: (q8, .inl (cA 0, 50, .inl (fun _ => iI 0))) :: (q7, .inl (cA 0, 300, .inl (fun _ => iI 0))) :: (q6, .inl (cA 0, 6, .inl (fun _ => iI 0))) :: (q5, .inl (cA 1, 3, .inr (.inl (fun _ => lI 0)))) :: (q4, .inl (cA 1, 150, .inr (.inl (fun _ => lI 0)))) :: (q3, .inl (cA 0, 3, .inl (fun _ => iI 0))) :: (q2, .inl (cA 0, 3, .inl (fun _ => iI 0))) :: (q1, .inl (cA 0, 24, .inl (fun _ => iI 0))) :: (h, .inr (8, [.ref q1, .ref q2, .ref q3, .ref q4, .ref q5, .ref q6, .ref q7, .ref q8, .ref q9, .ref q10, .int (iI 0), .ref q11, .ref q12, .ref q13, .ref q14, .int (iI 0), .ref q15, .ref q16, .ref q17, .int (iI 0), .ref q18, .ref q19, .ref q20, .int (iI 0), .int (iI 0), .ref q21, .ref q22, .ref q23, .null, .null, .null, .null, .null, .int (iI 0)])) :: w72 cA ad (sg0 T)) 23 dX8_init_192 lq_X8_80 rfl rfl rfl (Nat.lt_of_succ_le (Nat.le_of_ble_eq_true rfl)) rfl rfl ?_
  refine c_aload X 0 dX8_init_195 rfl ?_
  refine c_bipush X dX8_init_196 (by decide +kernel) ?_
  refine c_newL X (N := 60) (cells' := 24) (slots' := 116375) dX8_init_198 (wmem 134 (by decide +kernel) rfl) rfl (Nat.le_of_ble_eq_true rfl) (Nat.le_of_ble_eq_true rfl) rfl rfl ⟨(Nat.le_of_ble_eq_true rfl), (Nat.le_of_ble_eq_true rfl)⟩ (fun q24 => ?_)
  refine c_putF X hin9 (fs' := [.ref q1, .ref q2, .ref q3, .ref q4, .ref q5, .ref q6, .ref q7, .ref q8, .ref q9, .ref q10, .int (iI 0), .ref q11, .ref q12, .ref q13, .ref q14, .int (iI 0), .ref q15, .ref q16, .ref q17, .int (iI 0), .ref q18, .ref q19, .ref q20, .int (iI 0), .int (iI 0), .ref q21, .ref q22, .ref q23, .ref q24, .null, .null, .null, .null, .int (iI 0)]) (ws' := (q24, .inl (cA 1, 60, .inr (.inl (fun _ => lI 0)))) :: (q23, .inl (cA 1, 180, .inr (.inl (fun _ => lI 0)))) :: (q22, .inl (cA 0, 3, .inl (fun _ => iI 0))) :: (q21, .inl (cA 2, 3, .inl (fun _ => iI 0))) :: (q20, .inl (cA 0, 80, .inl (fun _ => iI 0))) :: (q19, .inl (cA 0, 160, .inl (fun _ => iI 0))) :: (q18, .inl (cA 0, 50, .inl (fun _ => iI 0))) :: (q17, .inl (cA 0, 16384, .inl (fun _ => iI 0))) :: (q16, .inl (cA 1, 16384, .inr (.inl (fun _ => lI 0)))) :: (q15, .inl (cA 1, 16384, .inr (.inl (fun _ => lI 0)))) :: (q14, .inl (cA 0, 16384, .inl (fun _ => iI 0))) :: (q13, .inl (cA 0, 16384, .inl (fun _ => iI 0))) :: (q12, .inl (cA 1, 16384, .inr (.inl (fun _ => lI 0)))) :: (q11, .inl (cA 1, 16384, .inr (.inl (fun _ => lI 0)))) :: (q10, .inl (cA 0, 600, .inl (fun _ => iI 0))) :: (q9, .inl (cA 0, 12, .inl (fun _ => iI 0))) :: (q8, .inl (cA 0, 50, .inl (fun _ => iI 0))) :: (q7, .inl (cA 0, 300, .inl (fun _ => iI 0))) :: (q6, .inl (cA 0, 6, .inl (fun _ => iI 0))) :: (q5, .inl (cA 1, 3, .inr (.inl (fun _ => lI 0)))) :: (q4, .inl (cA 1, 150, .inr (.inl (fun _ => lI 0)))) :: (q3, .inl (cA 0, 3, .inl (fun _ => iI 0))) :: (q2, .inl (cA 0, 3, .inl (fun _ => iI 0))) :: (q1, .inl (cA 0, 24, .inl (fun _ => iI 0))) :: (h, .inr (8, [.ref q1, .ref q2, .ref q3, .ref q4, .ref q5, .ref q6, .ref q7, .ref q8, .ref q9, .ref q10, .int (iI 0), .ref q11, .ref q12, .ref q13, .ref q14, .int (iI 0), .ref q15, .ref q16, .ref q17, .int (iI 0), .ref q18, .ref q19, .ref q20, .int (iI 0), .int (iI 0), .ref q21, .ref q22, .ref q23, .ref q24, .null, .null, .null, .null, .int (iI 0)])) :: w72 cA ad (sg0 T)) 24 dX8_init_200 lq_X8_83 rfl rfl rfl (Nat.lt_of_succ_le (Nat.le_of_ble_eq_true rfl)) rfl rfl ?_
  refine c_aload X 0 dX8_init_203 rfl ?_
  refine c_bipush X dX8_init_204 (by decide +kernel) ?_
  refine c_newI X (N := 24) (cells' := 25) (slots' := 116399) dX8_init_206 (wmem 84 (by decide +kernel) rfl) rfl (Nat.le_of_ble_eq_true rfl) (Nat.le_of_ble_eq_true rfl) rfl rfl ⟨(Nat.le_of_ble_eq_true rfl), (Nat.le_of_ble_eq_true rfl)⟩ (fun q25 => ?_)
  refine c_putF X hin9 (fs' := [.ref q1, .ref q2, .ref q3, .ref q4, .ref q5, .ref q6, .ref q7, .ref q8, .ref q9, .ref q10, .int (iI 0), .ref q11, .ref q12, .ref q13, .ref q14, .int (iI 0), .ref q15, .ref q16, .ref q17, .int (iI 0), .ref q18, .ref q19, .ref q20, .int (iI 0), .int (iI 0), .ref q21, .ref q22, .ref q23, .ref q24, .ref q25, .null, .null, .null, .int (iI 0)]) (ws' := (q25, .inl (cA 0, 24, .inl (fun _ => iI 0))) :: (q24, .inl (cA 1, 60, .inr (.inl (fun _ => lI 0)))) :: (q23, .inl (cA 1, 180, .inr (.inl (fun _ => lI 0)))) :: (q22, .inl (cA 0, 3, .inl (fun _ => iI 0))) :: (q21, .inl (cA 2, 3, .inl (fun _ => iI 0))) :: (q20, .inl (cA 0, 80, .inl (fun _ => iI 0))) :: (q19, .inl (cA 0, 160, .inl (fun _ => iI 0))) :: (q18, .inl (cA 0, 50, .inl (fun _ => iI 0))) :: (q17, .inl (cA 0, 16384, .inl (fun _ => iI 0))) :: (q16, .inl (cA 1, 16384, .inr (.inl (fun _ => lI 0)))) :: (q15, .inl (cA 1, 16384, .inr (.inl (fun _ => lI 0)))) :: (q14, .inl (cA 0, 16384, .inl (fun _ => iI 0))) :: (q13, .inl (cA 0, 16384, .inl (fun _ => iI 0))) :: (q12, .inl (cA 1, 16384, .inr (.inl (fun _ => lI 0)))) :: (q11, .inl (cA 1, 16384, .inr (.inl (fun _ => lI 0)))) :: (q10, .inl (cA 0, 600, .inl (fun _ => iI 0))) :: (q9, .inl (cA 0, 12, .inl (fun _ => iI 0))) :: (q8, .inl (cA 0, 50, .inl (fun _ => iI 0))) :: (q7, .inl (cA 0, 300, .inl (fun _ => iI 0))) :: (q6, .inl (cA 0, 6, .inl (fun _ => iI 0))) :: (q5, .inl (cA 1, 3, .inr (.inl (fun _ => lI 0)))) :: (q4, .inl (cA 1, 150, .inr (.inl (fun _ => lI 0)))) :: (q3, .inl (cA 0, 3, .inl (fun _ => iI 0))) :: (q2, .inl (cA 0, 3, .inl (fun _ => iI 0))) :: (q1, .inl (cA 0, 24, .inl (fun _ => iI 0))) :: (h, .inr (8, [.ref q1, .ref q2, .ref q3, .ref q4, .ref q5, .ref q6, .ref q7, .ref q8, .ref q9, .ref q10, .int (iI 0), .ref q11, .ref q12, .ref q13, .ref q14, .int (iI 0), .ref q15, .ref q16, .ref q17, .int (iI 0), .ref q18, .ref q19, .ref q20, .int (iI 0), .int (iI 0), .ref q21, .ref q22, .ref q23, .ref q24, .ref q25, .null, .null, .null, .int (iI 0)])) :: w72 cA ad (sg0 T)) 25 dX8_init_208 lq_X8_86 rfl rfl rfl (Nat.lt_of_succ_le (Nat.le_of_ble_eq_true rfl)) rfl rfl ?_
  refine c_aload X 0 dX8_init_211 rfl ?_
  refine c_iconst X dX8_init_212 ?_
  refine c_newI X (N := 3) (cells' := 26) (slots' := 116402) dX8_init_213 (wmem 84 (by decide +kernel) rfl) rfl (Nat.le_of_ble_eq_true rfl) (Nat.le_of_ble_eq_true rfl) rfl rfl ⟨(Nat.le_of_ble_eq_true rfl), (Nat.le_of_ble_eq_true rfl)⟩ (fun q26 => ?_)
  refine c_putF X hin9 (fs' := [.ref q1, .ref q2, .ref q3, .ref q4, .ref q5, .ref q6, .ref q7, .ref q8, .ref q9, .ref q10, .int (iI 0), .ref q11, .ref q12, .ref q13, .ref q14, .int (iI 0), .ref q15, .ref q16, .ref q17, .int (iI 0), .ref q18, .ref q19, .ref q20, .int (iI 0), .int (iI 0), .ref q21, .ref q22, .ref q23, .ref q24, .ref q25, .ref q26, .null, .null, .int (iI 0)]) (ws' := (q26, .inl (cA 0, 3, .inl (fun _ => iI 0))) :: (q25, .inl (cA 0, 24, .inl (fun _ => iI 0))) :: (q24, .inl (cA 1, 60, .inr (.inl (fun _ => lI 0)))) :: (q23, .inl (cA 1, 180, .inr (.inl (fun _ => lI 0)))) :: (q22, .inl (cA 0, 3, .inl (fun _ => iI 0))) :: (q21, .inl (cA 2, 3, .inl (fun _ => iI 0))) :: (q20, .inl (cA 0, 80, .inl (fun _ => iI 0))) :: (q19, .inl (cA 0, 160, .inl (fun _ => iI 0))) :: (q18, .inl (cA 0, 50, .inl (fun _ => iI 0))) :: (q17, .inl (cA 0, 16384, .inl (fun _ => iI 0))) :: (q16, .inl (cA 1, 16384, .inr (.inl (fun _ => lI 0)))) :: (q15, .inl (cA 1, 16384, .inr (.inl (fun _ => lI 0)))) :: (q14, .inl (cA 0, 16384, .inl (fun _ => iI 0))) :: (q13, .inl (cA 0, 16384, .inl (fun _ => iI 0))) :: (q12, .inl (cA 1, 16384, .inr (.inl (fun _ => lI 0)))) :: (q11, .inl (cA 1, 16384, .inr (.inl (fun _ => lI 0)))) :: (q10, .inl (cA 0, 600, .inl (fun _ => iI 0))) :: (q9, .inl (cA 0, 12, .inl (fun _ => iI 0))) :: (q8, .inl (cA 0, 50, .inl (fun _ => iI 0))) :: (q7, .inl (cA 0, 300, .inl (fun _ => iI 0))) :: (q6, .inl (cA 0, 6, .inl (fun _ => iI 0))) :: (q5, .inl (cA 1, 3, .inr (.inl (fun _ => lI 0)))) :: (q4, .inl (cA 1, 150, .inr (.inl (fun _ => lI 0)))) :: (q3, .inl (cA 0, 3, .inl (fun _ => iI 0))) :: (q2, .inl (cA 0, 3, .inl (fun _ => iI 0))) :: (q1, .inl (cA 0, 24, .inl (fun _ => iI 0))) :: (h, .inr (8, [.ref q1, .ref q2, .ref q3, .ref q4, .ref q5, .ref q6, .ref q7, .ref q8, .ref q9, .ref q10, .int (iI 0), .ref q11, .ref q12, .ref q13, .ref q14, .int (iI 0), .ref q15, .ref q16, .ref q17, .int (iI 0), .ref q18, .ref q19, .ref q20, .int (iI 0), .int (iI 0), .ref q21, .ref q22, .ref q23, .ref q24, .ref q25, .ref q26, .null, .null, .int (iI 0)])) :: w72 cA ad (sg0 T)) 26 dX8_init_215 lq_X8_89 rfl rfl rfl (Nat.lt_of_succ_le (Nat.le_of_ble_eq_true rfl)) rfl rfl ?_
  refine c_aload X 0 dX8_init_218 rfl ?_
  refine c_bipush X dX8_init_219 (by decide +kernel) ?_
  refine c_newI X (N := 6) (cells' := 27) (slots' := 116408) dX8_init_221 (wmem 84 (by decide +kernel) rfl) rfl (Nat.le_of_ble_eq_true rfl) (Nat.le_of_ble_eq_true rfl) rfl rfl ⟨(Nat.le_of_ble_eq_true rfl), (Nat.le_of_ble_eq_true rfl)⟩ (fun q27 => ?_)
  refine c_putF X hin9 (fs' := [.ref q1, .ref q2, .ref q3, .ref q4, .ref q5, .ref q6, .ref q7, .ref q8, .ref q9, .ref q10, .int (iI 0), .ref q11, .ref q12, .ref q13, .ref q14, .int (iI 0), .ref q15, .ref q16, .ref q17, .int (iI 0), .ref q18, .ref q19, .ref q20, .int (iI 0), .int (iI 0), .ref q21, .ref q22, .ref q23, .ref q24, .ref q25, .ref q26, .ref q27, .null, .int (iI 0)]) (ws' := (q27, .inl (cA 0, 6, .inl (fun _ => iI 0))) :: (q26, .inl (cA 0, 3, .inl (fun _ => iI 0))) :: (q25, .inl (cA 0, 24, .inl (fun _ => iI 0))) :: (q24, .inl (cA 1, 60, .inr (.inl (fun _ => lI 0)))) :: (q23, .inl (cA 1, 180, .inr (.inl (fun _ => lI 0)))) :: (q22, .inl (cA 0, 3, .inl (fun _ => iI 0))) :: (q21, .inl (cA 2, 3, .inl (fun _ => iI 0))) :: (q20, .inl (cA 0, 80, .inl (fun _ => iI 0))) :: (q19, .inl (cA 0, 160, .inl (fun _ => iI 0))) :: (q18, .inl (cA 0, 50, .inl (fun _ => iI 0))) :: (q17, .inl (cA 0, 16384, .inl (fun _ => iI 0))) :: (q16, .inl (cA 1, 16384, .inr (.inl (fun _ => lI 0)))) :: (q15, .inl (cA 1, 16384, .inr (.inl (fun _ => lI 0)))) :: (q14, .inl (cA 0, 16384, .inl (fun _ => iI 0))) :: (q13, .inl (cA 0, 16384, .inl (fun _ => iI 0))) :: (q12, .inl (cA 1, 16384, .inr (.inl (fun _ => lI 0)))) :: (q11, .inl (cA 1, 16384, .inr (.inl (fun _ => lI 0)))) :: (q10, .inl (cA 0, 600, .inl (fun _ => iI 0))) :: (q9, .inl (cA 0, 12, .inl (fun _ => iI 0))) :: (q8, .inl (cA 0, 50, .inl (fun _ => iI 0))) :: (q7, .inl (cA 0, 300, .inl (fun _ => iI 0))) :: (q6, .inl (cA 0, 6, .inl (fun _ => iI 0))) :: (q5, .inl (cA 1, 3, .inr (.inl (fun _ => lI 0)))) :: (q4, .inl (cA 1, 150, .inr (.inl (fun _ => lI 0)))) :: (q3, .inl (cA 0, 3, .inl (fun _ => iI 0))) :: (q2, .inl (cA 0, 3, .inl (fun _ => iI 0))) :: (q1, .inl (cA 0, 24, .inl (fun _ => iI 0))) :: (h, .inr (8, [.ref q1, .ref q2, .ref q3, .ref q4, .ref q5, .ref q6, .ref q7, .ref q8, .ref q9, .ref q10, .int (iI 0), .ref q11, .ref q12, .ref q13, .ref q14, .int (iI 0), .ref q15, .ref q16, .ref q17, .int (iI 0), .ref q18, .ref q19, .ref q20, .int (iI 0), .int (iI 0), .ref q21, .ref q22, .ref q23, .ref q24, .ref q25, .ref q26, .ref q27, .null, .int (iI 0)])) :: w72 cA ad (sg0 T)) 27 dX8_init_223 lq_X8_92 rfl rfl rfl (Nat.lt_of_succ_le (Nat.le_of_ble_eq_true rfl)) rfl rfl ?_
  refine c_aload X 0 dX8_init_226 rfl ?_
  refine c_sipush X dX8_init_227 (by decide +kernel) ?_
  refine c_newI X (N := 300) (cells' := 28) (slots' := 116708) dX8_init_230 (wmem 84 (by decide +kernel) rfl) rfl (Nat.le_of_ble_eq_true rfl) (Nat.le_of_ble_eq_true rfl) rfl rfl ⟨(Nat.le_of_ble_eq_true rfl), (Nat.le_of_ble_eq_true rfl)⟩ (fun q28 => ?_)
  refine c_putF X hin9 (fs' := [.ref q1, .ref q2, .ref q3, .ref q4, .ref q5, .ref q6, .ref q7, .ref q8, .ref q9, .ref q10, .int (iI 0), .ref q11, .ref q12, .ref q13, .ref q14, .int (iI 0), .ref q15, .ref q16, .ref q17, .int (iI 0), .ref q18, .ref q19, .ref q20, .int (iI 0), .int (iI 0), .ref q21, .ref q22, .ref q23, .ref q24, .ref q25, .ref q26, .ref q27, .ref q28, .int (iI 0)]) (ws' := (q28, .inl (cA 0, 300, .inl (fun _ => iI 0))) :: (q27, .inl (cA 0, 6, .inl (fun _ => iI 0))) :: (q26, .inl (cA 0, 3, .inl (fun _ => iI 0))) :: (q25, .inl (cA 0, 24, .inl (fun _ => iI 0))) :: (q24, .inl (cA 1, 60, .inr (.inl (fun _ => lI 0)))) :: (q23, .inl (cA 1, 180, .inr (.inl (fun _ => lI 0)))) :: (q22, .inl (cA 0, 3, .inl (fun _ => iI 0))) :: (q21, .inl (cA 2, 3, .inl (fun _ => iI 0))) :: (q20, .inl (cA 0, 80, .inl (fun _ => iI 0))) :: (q19, .inl (cA 0, 160, .inl (fun _ => iI 0))) :: (q18, .inl (cA 0, 50, .inl (fun _ => iI 0))) :: (q17, .inl (cA 0, 16384, .inl (fun _ => iI 0))) :: (q16, .inl (cA 1, 16384, .inr (.inl (fun _ => lI 0)))) :: (q15, .inl (cA 1, 16384, .inr (.inl (fun _ => lI 0)))) :: (q14, .inl (cA 0, 16384, .inl (fun _ => iI 0))) :: (q13, .inl (cA 0, 16384, .inl (fun _ => iI 0))) :: (q12, .inl (cA 1, 16384, .inr (.inl (fun _ => lI 0)))) :: (q11, .inl (cA 1, 16384, .inr (.inl (fun _ => lI 0)))) :: (q10, .inl (cA 0, 600, .inl (fun _ => iI 0))) :: (q9, .inl (cA 0, 12, .inl (fun _ => iI 0))) :: (q8, .inl (cA 0, 50, .inl (fun _ => iI 0))) :: (q7, .inl (cA 0, 300, .inl (fun _ => iI 0))) :: (q6, .inl (cA 0, 6, .inl (fun _ => iI 0))) :: (q5, .inl (cA 1, 3, .inr (.inl (fun _ => lI 0)))) :: (q4, .inl (cA 1, 150, .inr (.inl (fun _ => lI 0)))) :: (q3, .inl (cA 0, 3, .inl (fun _ => iI 0))) :: (q2, .inl (cA 0, 3, .inl (fun _ => iI 0))) :: (q1, .inl (cA 0, 24, .inl (fun _ => iI 0))) :: (h, .inr (8, [.ref q1, .ref q2, .ref q3, .ref q4, .ref q5, .ref q6, .ref q7, .ref q8, .ref q9, .ref q10, .int (iI 0), .ref q11, .ref q12, .ref q13, .ref q14, .int (iI 0), .ref q15, .ref q16, .ref q17, .int (iI 0), .ref q18, .ref q19, .ref q20, .int (iI 0), .int (iI 0), .ref q21, .ref q22, .ref q23, .ref q24, .ref q25, .ref q26, .ref q27, .ref q28, .int (iI 0)])) :: w72 cA ad (sg0 T)) 28 dX8_init_232 lq_X8_95 rfl rfl rfl (Nat.lt_of_succ_le (Nat.le_of_ble_eq_true rfl)) rfl rfl ?_
  let ad1 : Nat → Nat := fun i => if i < 72 then ad i else [h, q1, q2, q3, q4, q5, q6, q7, q8, q9, q10, q11, q12, q13, q14, q15, q16, q17, q18, q19, q20, q21, q22, q23, q24, q25, q26, q27, q28].getD (i - 72) b0
  have ha : ∀ i, i < 72 → ad1 i = ad i := fun i hi => if_pos hi
  refine c_conv (ws' := wl cA ad1 (sg0 T)) (fun H hP => ?_) ?_ ?_
  · have lo : ∀ id, id < 72 → va_at D vwCl (ad1 id, ent cA ad1 (sg0 T) id) H := fun id hid => ent_mv hid ha (hP _ (by
      refine List.mem_cons_of_mem _ (List.mem_cons_of_mem _ (List.mem_cons_of_mem _ (List.mem_cons_of_mem _ (List.mem_cons_of_mem _ (List.mem_cons_of_mem _ (List.mem_cons_of_mem _ (List.mem_cons_of_mem _ (List.mem_cons_of_mem _ (List.mem_cons_of_mem _ (List.mem_cons_of_mem _ (List.mem_cons_of_mem _ (List.mem_cons_of_mem _ (List.mem_cons_of_mem _ (List.mem_cons_of_mem _ (List.mem_cons_of_mem _ (List.mem_cons_of_mem _ (List.mem_cons_of_mem _ (List.mem_cons_of_mem _ (List.mem_cons_of_mem _ (List.mem_cons_of_mem _ (List.mem_cons_of_mem _ (List.mem_cons_of_mem _ (List.mem_cons_of_mem _ (List.mem_cons_of_mem _ (List.mem_cons_of_mem _ (List.mem_cons_of_mem _ (List.mem_cons_of_mem _ (List.mem_cons_of_mem _ (?_)))))))))))))))))))))))))))))
      exact List.mem_map.mpr ⟨id, List.mem_range.mpr hid, rfl⟩))
    have a72 : va_at D vwCl (ad1 72, ent cA ad1 (sg0 T) 72) H := by
      rw [ent72]
      exact hP _ (List.mem_of_getElem? (i := 28) rfl)
    have a73 : va_at D vwCl (ad1 73, ent cA ad1 (sg0 T) 73) H := hP _ (List.mem_of_getElem? (i := 27) rfl)
    have a74 : va_at D vwCl (ad1 74, ent cA ad1 (sg0 T) 74) H := hP _ (List.mem_of_getElem? (i := 26) rfl)
    have a75 : va_at D vwCl (ad1 75, ent cA ad1 (sg0 T) 75) H := hP _ (List.mem_of_getElem? (i := 25) rfl)
    have a76 : va_at D vwCl (ad1 76, ent cA ad1 (sg0 T) 76) H := hP _ (List.mem_of_getElem? (i := 24) rfl)
    have a77 : va_at D vwCl (ad1 77, ent cA ad1 (sg0 T) 77) H := hP _ (List.mem_of_getElem? (i := 23) rfl)
    have a78 : va_at D vwCl (ad1 78, ent cA ad1 (sg0 T) 78) H := hP _ (List.mem_of_getElem? (i := 22) rfl)
    have a79 : va_at D vwCl (ad1 79, ent cA ad1 (sg0 T) 79) H := hP _ (List.mem_of_getElem? (i := 21) rfl)
    have a80 : va_at D vwCl (ad1 80, ent cA ad1 (sg0 T) 80) H := hP _ (List.mem_of_getElem? (i := 20) rfl)
    have a81 : va_at D vwCl (ad1 81, ent cA ad1 (sg0 T) 81) H := hP _ (List.mem_of_getElem? (i := 19) rfl)
    have a82 : va_at D vwCl (ad1 82, ent cA ad1 (sg0 T) 82) H := hP _ (List.mem_of_getElem? (i := 18) rfl)
    have a83 : va_at D vwCl (ad1 83, ent cA ad1 (sg0 T) 83) H := hP _ (List.mem_of_getElem? (i := 17) rfl)
    have a84 : va_at D vwCl (ad1 84, ent cA ad1 (sg0 T) 84) H := hP _ (List.mem_of_getElem? (i := 16) rfl)
    have a85 : va_at D vwCl (ad1 85, ent cA ad1 (sg0 T) 85) H := hP _ (List.mem_of_getElem? (i := 15) rfl)
    have a86 : va_at D vwCl (ad1 86, ent cA ad1 (sg0 T) 86) H := hP _ (List.mem_of_getElem? (i := 14) rfl)
    have a87 : va_at D vwCl (ad1 87, ent cA ad1 (sg0 T) 87) H := hP _ (List.mem_of_getElem? (i := 13) rfl)
    have a88 : va_at D vwCl (ad1 88, ent cA ad1 (sg0 T) 88) H := hP _ (List.mem_of_getElem? (i := 12) rfl)
    have a89 : va_at D vwCl (ad1 89, ent cA ad1 (sg0 T) 89) H := hP _ (List.mem_of_getElem? (i := 11) rfl)
    have a90 : va_at D vwCl (ad1 90, ent cA ad1 (sg0 T) 90) H := hP _ (List.mem_of_getElem? (i := 10) rfl)
    have a91 : va_at D vwCl (ad1 91, ent cA ad1 (sg0 T) 91) H := hP _ (List.mem_of_getElem? (i := 9) rfl)
    have a92 : va_at D vwCl (ad1 92, ent cA ad1 (sg0 T) 92) H := hP _ (List.mem_of_getElem? (i := 8) rfl)
    have a93 : va_at D vwCl (ad1 93, ent cA ad1 (sg0 T) 93) H := hP _ (List.mem_of_getElem? (i := 7) rfl)
    have a94 : va_at D vwCl (ad1 94, ent cA ad1 (sg0 T) 94) H := hP _ (List.mem_of_getElem? (i := 6) rfl)
    have a95 : va_at D vwCl (ad1 95, ent cA ad1 (sg0 T) 95) H := hP _ (List.mem_of_getElem? (i := 5) rfl)
    have a96 : va_at D vwCl (ad1 96, ent cA ad1 (sg0 T) 96) H := hP _ (List.mem_of_getElem? (i := 4) rfl)
    have a97 : va_at D vwCl (ad1 97, ent cA ad1 (sg0 T) 97) H := hP _ (List.mem_of_getElem? (i := 3) rfl)
    have a98 : va_at D vwCl (ad1 98, ent cA ad1 (sg0 T) 98) H := hP _ (List.mem_of_getElem? (i := 2) rfl)
    have a99 : va_at D vwCl (ad1 99, ent cA ad1 (sg0 T) 99) H := hP _ (List.mem_of_getElem? (i := 1) rfl)
    have a100 : va_at D vwCl (ad1 100, ent cA ad1 (sg0 T) 100) H := hP _ (List.mem_of_getElem? (i := 0) rfl)
    intro q hq
    obtain ⟨id, hid, rfl⟩ := List.mem_map.mp hq
    have hid := List.mem_range.mp hid
    by_cases h72 : id < 72
    · exact lo id h72
    · have hN : id < 101 := hid
      rcases (show id = 72 ∨ id = 73 ∨ id = 74 ∨ id = 75 ∨ id = 76 ∨ id = 77 ∨ id = 78 ∨ id = 79 ∨ id = 80 ∨ id = 81 ∨ id = 82 ∨ id = 83 ∨ id = 84 ∨ id = 85 ∨ id = 86 ∨ id = 87 ∨ id = 88 ∨ id = 89 ∨ id = 90 ∨ id = 91 ∨ id = 92 ∨ id = 93 ∨ id = 94 ∨ id = 95 ∨ id = 96 ∨ id = 97 ∨ id = 98 ∨ id = 99 ∨ id = 100 by omega) with rfl | rfl | rfl | rfl | rfl | rfl | rfl | rfl | rfl | rfl | rfl | rfl | rfl | rfl | rfl | rfl | rfl | rfl | rfl | rfl | rfl | rfl | rfl | rfl | rfl | rfl | rfl | rfl | rfl
      · exact a72
      · exact a73
      · exact a74
      · exact a75
      · exact a76
      · exact a77
      · exact a78
      · exact a79
      · exact a80
      · exact a81
      · exact a82
      · exact a83
      · exact a84
      · exact a85
      · exact a86
      · exact a87
      · exact a88
      · exact a89
      · exact a90
      · exact a91
      · exact a92
      · exact a93
      · exact a94
      · exact a95
      · exact a96
      · exact a97
      · exact a98
      · exact a99
      · exact a100
  · have e1 : (w72 cA ad (sg0 T)).map (fun q => q.1) = (List.range 72).map ad1 := by
      unfold w72
      rw [List.map_map]
      exact List.map_congr_left (fun i hi => (ha i (List.mem_range.mp hi)).symm)
    have e2 : (wl cA ad1 (sg0 T)).map (fun q => q.1) = (List.range 101).map ad1 := by
      unfold wl
      rw [List.map_map]; rfl
    rw [e2]
    show ([q28, q27, q26, q25, q24, q23, q22, q21, q20, q19, q18, q17, q16, q15, q14, q13, q12, q11, q10, q9, q8, q7, q6, q5, q4, q3, q2, q1, h] ++ (w72 cA ad (sg0 T)).map (fun q => q.1)).Perm _
    rw [e1, show ([q28, q27, q26, q25, q24, q23, q22, q21, q20, q19, q18, q17, q16, q15, q14, q13, q12, q11, q10, q9, q8, q7, q6, q5, q4, q3, q2, q1, h] : List Nat) = ([100, 99, 98, 97, 96, 95, 94, 93, 92, 91, 90, 89, 88, 87, 86, 85, 84, 83, 82, 81, 80, 79, 78, 77, 76, 75, 74, 73, 72] : List Nat).map ad1 from rfl, ← List.map_append]
    exact List.Perm.map ad1 (by decide +kernel)
  · refine c_to X (lv' := [(0, .ref 72)]) (st' := []) rfl rfl (fun XC => ?_)
    refine g_iconst XC dX8_init_235 ?_
    refine g_istore_n XC (lv' := [(1, .int (iI 0)), (0, .ref 72)]) dX8_init_236 (by decide) rfl ?_
    refine m_loop1 (T := T) XC ⟨rfl, rfl, Nat.le_of_ble_eq_true rfl, Nat.le_of_ble_eq_true rfl⟩ ⟨Nat.le_refl _, Nat.le_refl _⟩ (fun σ1 J => ?_) 3 0 (sg0 T) rfl ⟨Fr.rf, fun i i0 i1 => by exfalso; have : i < 0 := i1; omega⟩
    refine g_iconst XC dX8_init_270 ?_
    refine g_istore_n XC (lv' := [(1, .int (iI 0)), (0, .ref 72)]) dX8_init_271 (by decide) rfl ?_
    refine m_loop2 (T := T) XC (fun σ2 J2 => ?_) 6 0 σ1 rfl ⟨J, fun r r0 r1 => by exfalso; have : r < 0 := r1; omega⟩
    refine c_of XC ?_
    exact c_ret X hr hlk dX8_init_291 ⟨ad1, σ2, rfl, rfl, ha, CAll.mo J2.1.1.1 (call0 hT), mall0 J2, rfl⟩
