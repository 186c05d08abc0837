/-! an argument of the law's calls: a place of the script; two of them as a long -/
theorem wf_baseA {α : AB} (W : WF α) (i n s : Int) : WF (oBase α i n s).2 := by
  refine wf_base W i n s ?_
  rcases Classical.em (rowP n s) with R | R
  · obtain ⟨h, q⟩ := bok_ex R
    exact ⟨h, Or.inl q⟩
  · exact ⟨0, Or.inr R⟩
theorem wf_image {α : AB} (W : WF α) : WF (oImage α).2 := W.img
def sc (xs : Nat → Int32) (j : Int) : Int := (xs j.toNat).toInt
theorem sc_32 (xs : Nat → Int32) (j : Int) : i32 (sc xs j) := i32_of _
def lg2 (a b : Int) : Int := (((iI a).toInt64 <<< ((iI 32).toInt64 &&& 63)) ||| ((iI b).toInt64 &&& lI 4294967295)).toInt
def lwL (i : Int) : List (Nat × Value) := [(3, .int (iI i)), (2, .ref 72), (1, .ref 0), (0, .ref 101)]
/-- inside the law: machine, code; the world's addresses may be written, the script (101) is outside and stays -/
def LwX (p : Program) (s : State) (m : MethodId) (args : Array Value) (c : Code) (A : Nat → Prop) (D : va_G) (cA : Nat → ClassId) (ad : Nat → Nat) (L : Nat) (xs : Nat → Int32) : Prop :=
  Cx p s m args c A D cA ad RL cL_law 4 ∧ (∀ q, adA ad q → A q) ∧ va_X (ad 101) L xs s s.heap ∧ ad 101 < s.heap.size ∧ ¬ A (ad 101) ∧ L ≤ 3072
section LR
variable {p : Program} {l : Launch} {e : Env} {R : Room} {s : State} {m : MethodId} {args : Array Value} {below : List Frame} {meth : Method} {c : Code} {A : Nat → Prop} {D : va_G} {cA : Nat → ClassId} {ad : Nat → Nat} {cells slots : Nat} {G : State → Prop} {pc : Nat} {st : List Value} {σ : ASt} {L : Nat} {xs : Nat → Int32}
theorem g_arg (Y : LwX p s m args c A D cA ad L xs) {n i : Int} (h0 : decode cL_law pc = .ok (.aload_n 0, 1)) (h1 : decode cL_law (pc + 1) = .ok (.iload_n 3, 1)) (h2 : decode cL_law (pc + 2) = .ok (.iconst n, 1)) (h3 : decode cL_law (pc + 3) = .ok (.iadd, 1)) (h4 : decode cL_law (pc + 4) = .ok (.iaload, 1)) (i0 : 0 ≤ i) (i6 : i + 6 ≤ L) (n0 : 0 ≤ n) (n5 : n < 6) (k : Wg p l e R s m args below meth c A D cA ad cells slots G (pc + 5) (lwL i) (.int (iI (sc xs (i + n))) :: st) σ) : Wg p l e R s m args below meth c A D cA ad cells slots G pc (lwL i) st σ := by
  have X := Y.1
  have hL := Y.2.2.2.2.2
  refine g_aload_n X 3 h0 rfl ?_
  refine g_iload_n X 0 h1 rfl ?_
  refine g_iconst X h2 ?_
  refine g_iadd X h3 ?_
  refine g_sld X Y.2.2.1 Y.2.2.2.1 Y.2.2.2.2.1 (by omega) (by omega) (by omega) h4 ?_
  rw [show xs (i + n).toNat = iI (sc xs (i + n)) from (iI_of _).symm]
  exact k
theorem g_lng (Y : LwX p s m args c A D cA ad L xs) {n n2 i : Int} {ix : Nat} (h0 : decode cL_law (pc) = .ok (.aload_n 0, 1)) (h1 : decode cL_law (pc + 1) = .ok (.iload_n 3, 1)) (h2 : decode cL_law (pc + 2) = .ok (.iconst n, 1)) (h3 : decode cL_law (pc + 3) = .ok (.iadd, 1)) (h4 : decode cL_law (pc + 4) = .ok (.iaload, 1)) (h5 : decode cL_law (pc + 5) = .ok (.i2l, 1)) (h6 : decode cL_law (pc + 6) = .ok (.bipush 32, 2)) (h7 : decode cL_law (pc + 8) = .ok (.lshl, 1)) (h8 : decode cL_law (pc + 9) = .ok (.aload_n 0, 1)) (h9 : decode cL_law (pc + 10) = .ok (.iload_n 3, 1)) (h10 : decode cL_law (pc + 11) = .ok (.iconst n2, 1)) (h11 : decode cL_law (pc + 12) = .ok (.iadd, 1)) (h12 : decode cL_law (pc + 13) = .ok (.iaload, 1)) (h13 : decode cL_law (pc + 14) = .ok (.i2l, 1)) (h14 : decode cL_law (pc + 15) = .ok (.ldc2_w ix, 3)) (h15 : decode cL_law (pc + 18) = .ok (.land, 1)) (h16 : decode cL_law (pc + 19) = .ok (.lor, 1)) (hc : Cond.constantLong RL ix (4294967295) ∈ allW) (i0 : 0 ≤ i) (i6 : i + 6 ≤ L) (n0 : 0 ≤ n) (n5 : n < 6) (m0 : 0 ≤ n2) (m5 : n2 < 6) (k : Wg p l e R s m args below meth c A D cA ad cells slots G (pc + 20) (lwL i) (.long (lI (lg2 (sc xs (i + n)) (sc xs (i + n2)))) :: st) σ) : Wg p l e R s m args below meth c A D cA ad cells slots G pc (lwL i) st σ := by
  have X := Y.1
  refine g_arg Y h0 h1 h2 h3 h4 i0 i6 n0 n5 ?_
  refine g_i2lR X h5 ?_
  refine g_bipush X h6 (by decide +kernel) ?_
  refine g_lshlR X h7 ?_
  refine g_arg Y h8 h9 h10 h11 h12 i0 i6 m0 m5 ?_
  refine g_i2lR X h13 ?_
  refine g_ldc2 X (z := 4294967295) h14 hc (by decide +kernel) ?_
  refine g_landR X h15 ?_
  refine g_lorR X h16 ?_
  rw [lg2, lI_of] at k
  exact k
end LR
