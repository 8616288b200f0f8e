/-! ===== bits of doubles, the digest (written by wip/whole/gen/model12.py) ===== -/
theorem r_d2raw {l : Launch} {D : va_G} {cs : Nat → ClassId} {ad : Nat → Nat} {nL : Nat} {κ : Kx} {u : Nat} {M : Mm} {pc : Nat} {lv : List (Nat × Value)} {st : List Value} {cc : ByteArray} {own : String} {fr lo U : Nat} (C : CX D cs ad cc nL own fr lo U κ) {x : UInt64} {index : Nat} (w1 : Cond.methodLink own index ⟨"java/lang/Double", "doubleToRawLongBits", "(D)J"⟩ ∈ TT) (w2 : Cond.native ⟨"java/lang/Double", "doubleToRawLongBits", "(D)J"⟩ ∈ TT) (w3 : Cond.static ⟨"java/lang/Double", "doubleToRawLongBits", "(D)J"⟩ ∈ TT) (w4 : Cond.initialized "java/lang/Double" ∈ TT) (hfr1 : 1 ≤ fr) (hlo1 : (st.map fun v => v.category).sum + 15 ≤ lo) (d : decode cc pc = .ok (.invokestatic index, 3)) (k : VV l D cs ad nL κ u M (pc + 3) lv (.long x.toInt64 :: st)) : VV l D cs ad nL κ u M pc lv (.double x :: st) := by
  obtain ⟨p, e, R, s, m, args, below, meth, c, c0, s0, Q⟩ := κ
  obtain ⟨hx, hb, hml, hown, hts, hK, hD, hfr, hlo, hc0, hs0⟩ := C
  intro H locs ls hP hS hl
  exact vn_d2l hx hb (hml.trans hl.1.symm) hown (hts _ w1) (hts _ w2) (hts _ w3) (hts _ w4) (by rw [hfr]; exact hfr1) (by rw [hlo]; exact hlo1) d (k H locs ls hP hS hl)
theorem r_topd {l : Launch} {D : va_G} {cs : Nat → ClassId} {ad : Nat → Nat} {nL : Nat} {κ : Kx} {u : Nat} {M : Mm} {pc : Nat} {lv : List (Nat × Value)} {st : List Value} {v w : UInt64} (h : v = w) (k : VV l D cs ad nL κ u M pc lv (.double w :: st)) : VV l D cs ad nL κ u M pc lv (.double v :: st) := h ▸ k
def dnn (x : UInt64) : Prop := Op.cmpValue (FP.dcmp x x) .l = 0
/-- the digest: the hash of the whole state -/
def dgz (z tk tx : Nat → Int32) (st : Int32) (n d len : Nat) (wt U S0 : Nat → Nat) (H0 : Nat) (U1 : Nat → Nat) (S : Nat → Nat → Nat) (H : Nat → Nat) : Int64 :=
  hsC cT (fun k => (tx k).toInt64) (31 * (31 * hsC cB (fun w => bhz z n d 3 1 wt U1 S H w) (hsC cT (fun w => (rnz z n w).toInt64) (hsC cT (fun p => bdz z n wt U S0 H0 p) (hsC cT (fun p => (z (50 + p)).toInt64) (mvs z n (hsC cT (fun k => (ctz z tk st n d k).toInt64) 2521 12) n) d) 3) 3) 14 + (nrz z n wt U S0 H0).toInt64) + lN len) len
theorem mJ_eq0 {M : Mm} {v : Int64} : (mJ M 135 17 v).2 135 17 = v := by rw [mJ_eq]; exact if_pos rfl
