/-! the law's own steps: its script (numbered 101), longs of two ints -/
section GL
variable {p : Program} {l : Launch} {e : Env} {R : Room} {s : State} {m : MethodId} {args : Array Value} {below : List Frame} {meth : Method} {c : Code} {A : Nat → Prop} {D : va_G} {cA : Nat → ClassId} {ad : Nat → Nat} {cells slots : Nat} {G : State → Prop} {own : String} {cc : ByteArray} {mx : Nat} {pc : Nat} {lv lv' : List (Nat × Value)} {st : List Value} {σ : ASt}
theorem g_sld (X : Cx p s m args c A D cA ad own cc mx) {L : Nat} {xs : Nat → Int32} (hX : va_X (ad 101) L xs s s.heap) (hbl : ad 101 < s.heap.size) (hbA : ¬ A (ad 101)) {i : Int} (h0 : 0 ≤ i) (h1 : i < (L : Int)) (h32 : i32 i) (hd : decode cc pc = .ok (.iaload, 1)) (k : Wg p l e R s m args below meth c A D cA ad cells slots G (pc + 1) lv (.int (xs i.toNat) :: st) σ) : Wg p l e R s m args below meth c A D cA ad cells slots G pc lv (.int (iI i) :: .ref 101 :: st) σ := by
  intro H locs ls hP hS hl
  refine va_sld X.1 X.2.1 hX hbl hbA hS (iI_in h0 h1 h32) hd ?_
  rw [iI_clamp h32]
  exact k H locs ls hP hS hl
theorem g_slen (X : Cx p s m args c A D cA ad own cc mx) {L : Nat} {xs : Nat → Int32} (hX : va_X (ad 101) L xs s s.heap) (hbl : ad 101 < s.heap.size) (hbA : ¬ A (ad 101)) (hd : decode cc pc = .ok (.arraylength, 1)) (k : Wg p l e R s m args below meth c A D cA ad cells slots G (pc + 1) lv (.int (iI (L : Int)) :: st) σ) : Wg p l e R s m args below meth c A D cA ad cells slots G pc lv (.ref 101 :: st) σ := by
  intro H locs ls hP hS hl
  refine va_slen X.1 X.2.1 hX hbl hbA hS hd ?_
  rw [iI_nat]
  exact k H locs ls hP hS hl
theorem g_i2lR (X : Cx p s m args c A D cA ad own cc mx) {x : Int32} (hd : decode cc pc = .ok (.i2l, 1)) (k : Wg p l e R s m args below meth c A D cA ad cells slots G (pc + 1) lv (.long x.toInt64 :: st) σ) : Wg p l e R s m args below meth c A D cA ad cells slots G pc lv (.int x :: st) σ :=
  fun H locs ls hP hS hl => lv_i2l X.1 X.2.1 hd rfl (k H locs ls hP hS hl)
theorem g_lshlR (X : Cx p s m args c A D cA ad own cc mx) {x : Int64} {y : Int32} (hd : decode cc pc = .ok (.lshl, 1)) (k : Wg p l e R s m args below meth c A D cA ad cells slots G (pc + 1) lv (.long (x <<< (y.toInt64 &&& 63)) :: st) σ) : Wg p l e R s m args below meth c A D cA ad cells slots G pc lv (.int y :: .long x :: st) σ :=
  fun H locs ls hP hS hl => lv_lshl X.1 X.2.1 hd rfl (k H locs ls hP hS hl)
theorem g_landR (X : Cx p s m args c A D cA ad own cc mx) {x y : Int64} (hd : decode cc pc = .ok (.land, 1)) (k : Wg p l e R s m args below meth c A D cA ad cells slots G (pc + 1) lv (.long (x &&& y) :: st) σ) : Wg p l e R s m args below meth c A D cA ad cells slots G pc lv (.long y :: .long x :: st) σ :=
  fun H locs ls hP hS hl => lv_land X.1 X.2.1 hd (k H locs ls hP hS hl)
theorem g_lorR (X : Cx p s m args c A D cA ad own cc mx) {x y : Int64} (hd : decode cc pc = .ok (.lor, 1)) (k : Wg p l e R s m args below meth c A D cA ad cells slots G (pc + 1) lv (.long (x ||| y) :: st) σ) : Wg p l e R s m args below meth c A D cA ad cells slots G pc lv (.long y :: .long x :: st) σ :=
  fun H locs ls hP hS hl => lv_lor X.1 X.2.1 hd (k H locs ls hP hS hl)
end GL
