/-- memory: a row of ints and a row of longs for each thing, by its number -/
abbrev Mm : Type := (Nat → Nat → Int32) × (Nat → Nat → Int64)
def gO (k : Nat) : Nat := 13 * k
def gN (k : Nat) : Nat := 13 * k + 1
def gW (k : Nat) : Nat := 13 * k + 2
def gL (k : Nat) : Nat := 13 * k + 3
def gR (k v : Nat) : Nat := 13 * k + 4 + v
def gH (k : Nat) : Nat := 13 * k + 12
/-- what lies at the thing i: things 0 to 116 are nine graphs (now, two snapshots, six saved ones), of 13 things each -/
def wF (cs : Nat → ClassId) (ad : Nat → Nat) (i : Nat) (x : Nat → Int32) (y : Nat → Int64) : va_E :=
  if i < 117 then
    if i % 13 = 0 then .inr (4, [.int (x 0), .int (x 1), .ref (ad (i + 1)), .ref (ad (i + 2)), .ref (ad (i + 3)), .ref (ad (i + 12))])
    else if i % 13 = 3 then .inl (cs 4, 8, .inr (.inr (.inr (.inr (fun j => if j < 8 then some (ad (i + 1 + j)) else none)))))
    else if i % 13 = 1 then .inl (cs 0, 8, .inl x)
    else if i % 13 = 2 then .inl (cs 0, 8, .inl x)
    else .inl (cs 0, 4, .inl x)
  else match i - 117 with
  | 0 => .inr (7, [.ref (ad 0), .ref (ad 118), .ref (ad 119), .ref (ad 120), .ref (ad 123), .ref (ad 125), .ref (ad 127), .ref (ad 129), .ref (ad 130), .int (x 9)])
  | 1 => .inl (cs 5, 2, .inr (.inr (.inr (.inr (fun j => if j < 2 then some (ad (13 * (1 + j))) else none)))))
  | 2 => .inl (cs 2, 2, .inl x)
  | 3 => .inr (6, [.ref (ad 121), .ref (ad 122), .int (x 2), .int (x 3)])
  | 4 => .inl (cs 5, 6, .inr (.inr (.inr (.inr (fun j => if j < 6 then some (ad (13 * (3 + j))) else none)))))
  | 5 => .inl (cs 0, 6, .inl x)
  | 6 => .inr (3, [.ref (ad 124), .int (x 1)])
  | 7 => .inl (cs 1, 60, .inl x)
  | 8 => .inr (2, [.ref (ad 126), .int (x 1)])
  | 9 => .inl (cs 0, 8, .inl x)
  | 10 => .inr (1, [.ref (ad 128), .int (x 1)])
  | 11 => .inl (cs 0, 256, .inl x)
  | 12 => .inr (0, [.int (x 0), .long (y 1), .long (y 2), .int (x 3)])
  | 13 => .inr (5, [.ref (ad 131), .ref (ad 132), .ref (ad 133), .ref (ad 134)])
  | 14 => .inl (cs 0, 4, .inl x)
  | 15 => .inr (0, [.int (x 0), .long (y 1), .long (y 2), .int (x 3)])
  | 16 => .inl (cs 0, 4, .inl x)
  | 17 => .inr (0, [.int (x 0), .long (y 1), .long (y 2), .int (x 3)])
  | 18 => .inl (cs 0, 3, .inl x)
  | 19 => .inl (cs 0, 4, .inl x)
  | 20 => .inl (cs 0, 20, .inl x)
  | 21 => .inl (cs 0, 20, .inl x)
  | 22 => .inl (cs 0, 4, .inl x)
  | _ => .inl (cs 0, 4, .inl x)
theorem wF_O (cs : Nat → ClassId) (ad : Nat → Nat) {k : Nat} (h : k < 9) (x : Nat → Int32) (y : Nat → Int64) : wF cs ad (gO k) x y = .inr (4, [.int (x 0), .int (x 1), .ref (ad (gN k)), .ref (ad (gW k)), .ref (ad (gL k)), .ref (ad (gH k))]) := by
  unfold wF gO gN gW gL gH
  rw [if_pos (by omega), if_pos (by omega)]
theorem wF_L (cs : Nat → ClassId) (ad : Nat → Nat) {k : Nat} (h : k < 9) (x : Nat → Int32) (y : Nat → Int64) : wF cs ad (gL k) x y = .inl (cs 4, 8, .inr (.inr (.inr (.inr (fun j => if j < 8 then some (ad (gR k j)) else none))))) := by
  unfold wF gL gR
  rw [if_pos (by omega), if_neg (by omega), if_pos (by omega)]
theorem wF_N (cs : Nat → ClassId) (ad : Nat → Nat) {k : Nat} (h : k < 9) (x : Nat → Int32) (y : Nat → Int64) : wF cs ad (gN k) x y = .inl (cs 0, 8, .inl x) := by
  unfold wF gN
  rw [if_pos (by omega), if_neg (by omega), if_neg (by omega), if_pos (by omega)]
theorem wF_W (cs : Nat → ClassId) (ad : Nat → Nat) {k : Nat} (h : k < 9) (x : Nat → Int32) (y : Nat → Int64) : wF cs ad (gW k) x y = .inl (cs 0, 8, .inl x) := by
  unfold wF gW
  rw [if_pos (by omega), if_neg (by omega), if_neg (by omega), if_neg (by omega), if_pos (by omega)]
theorem wF_R (cs : Nat → ClassId) (ad : Nat → Nat) {k v : Nat} (h : k < 9) (hv : v < 8) (x : Nat → Int32) (y : Nat → Int64) : wF cs ad (gR k v) x y = .inl (cs 0, 4, .inl x) := by
  unfold wF gR
  rw [if_pos (by omega), if_neg (by omega), if_neg (by omega), if_neg (by omega), if_neg (by omega)]
theorem wF_H (cs : Nat → ClassId) (ad : Nat → Nat) {k : Nat} (h : k < 9) (x : Nat → Int32) (y : Nat → Int64) : wF cs ad (gH k) x y = .inl (cs 0, 4, .inl x) := by
  unfold wF gH
  rw [if_pos (by omega), if_neg (by omega), if_neg (by omega), if_neg (by omega), if_neg (by omega)]
/-- how many things there are: the class's 135, the law's five rows, and one more while cliques runs -/
def nT (ad : Nat → Nat) : Nat := 140 + ad 1000
def wW (cs : Nat → ClassId) (ad : Nat → Nat) (M : Mm) : va_W := (List.range (nT ad)).map (fun i => (ad i, wF cs ad i (M.1 i) (M.2 i)))
theorem wW_gx (cs : Nat → ClassId) (ad : Nat → Nat) (M : Mm) {i : Nat} (h : i < nT ad) : (wW cs ad M)[i]? = some (ad i, wF cs ad i (M.1 i) (M.2 i)) := by
  unfold wW
  rw [List.getElem?_map, List.getElem?_range h]
  rfl
theorem wW_get (cs : Nat → ClassId) (ad : Nat → Nat) (M : Mm) {i : Nat} (h : i < 140) : (wW cs ad M)[i]? = some (ad i, wF cs ad i (M.1 i) (M.2 i)) := wW_gx cs ad M (Nat.lt_of_lt_of_le h (Nat.le_add_right 140 (ad 1000)))
theorem wW_inv {cs : Nat → ClassId} {ad : Nat → Nat} {M : Mm} {k : Nat} {q : Nat × va_E} (h : (wW cs ad M)[k]? = some q) : k < nT ad ∧ q = (ad k, wF cs ad k (M.1 k) (M.2 k)) := by
  have hk : k < nT ad := by
    have := (List.getElem?_eq_some_iff.mp h).1
    simpa [wW] using this
  rw [wW_gx cs ad M hk] at h
  exact ⟨hk, (Option.some.inj h).symm⟩
theorem wW_sx (cs : Nat → ClassId) (ad : Nat → Nat) {M M' : Mm} {i : Nat} {z : va_E} (hi : i < nT ad) (h : ∀ j, j ≠ i → M'.1 j = M.1 j ∧ M'.2 j = M.2 j) (hz : wF cs ad i (M'.1 i) (M'.2 i) = z) : (wW cs ad M).set i (ad i, z) = wW cs ad M' := by
  apply List.ext_getElem?
  intro j
  rw [List.getElem?_set]
  by_cases e : i = j
  · subst e
    rw [if_pos rfl, wW_gx cs ad M' hi, hz, if_pos (by simpa [wW] using hi)]
  · rw [if_neg e]
    rcases Nat.lt_or_ge j (nT ad) with q | q
    · rw [wW_gx cs ad M q, wW_gx cs ad M' q, (h j (fun w => e w.symm)).1, (h j (fun w => e w.symm)).2]
    · rw [List.getElem?_eq_none (by simpa [wW] using q), List.getElem?_eq_none (by simpa [wW] using q)]
theorem wW_set (cs : Nat → ClassId) (ad : Nat → Nat) {M M' : Mm} {i : Nat} {z : va_E} (hi : i < 140) (h : ∀ j, j ≠ i → M'.1 j = M.1 j ∧ M'.2 j = M.2 j) (hz : wF cs ad i (M'.1 i) (M'.2 i) = z) : (wW cs ad M).set i (ad i, z) = wW cs ad M' := wW_sx cs ad (Nat.lt_of_lt_of_le hi (Nat.le_add_right 140 (ad 1000))) h hz
def tyC (cs : Nat → ClassId) : List (ClassId × FieldType) := [(cs 0, .int), (cs 1, .char), (cs 2, .boolean), (cs 3, .byte), (cs 4, .array .int), (cs 5, .object RX4)]
def fA (ad : Nat → Nat) (sz : Nat) : Nat → Prop := fun q => (∃ i, i < nT ad ∧ q = ad i) ∨ sz ≤ q
def wB (D : va_G) (cs : Nat → ClassId) (ad : Nat → Nat) (A : Nat → Prop) (M : Mm) (U : State) : Prop := va_P D vwCl (wW cs ad M) U.heap ∧ va_K D vwCl (tyC cs) U ∧ va_D A (wW cs ad M)
theorem wD_any {cs : Nat → ClassId} {ad : Nat → Nat} {A B : Nat → Prop} {M : Mm} (hB : ∀ i, i < nT ad → B (ad i)) (h : va_D A (wW cs ad M)) (M' : Mm) : va_D B (wW cs ad M') := by
  refine ⟨fun i j p q hp hq e => ?_, fun k q hk => ?_⟩
  · obtain ⟨h1, rfl⟩ := wW_inv hp
    obtain ⟨h2, rfl⟩ := wW_inv hq
    exact h.1 i j _ _ (wW_gx cs ad M h1) (wW_gx cs ad M h2) e
  · obtain ⟨h1, rfl⟩ := wW_inv hk
    exact hB k h1
theorem fA_in {ad : Nat → Nat} {sz i : Nat} (h : i < nT ad) : fA ad sz (ad i) := Or.inl ⟨i, h, rfl⟩
/-- what a walk is inside of: program, environment, room, start, method, arguments, frames below, the method's own, cells and slots so far, the aim -/
abbrev Kx : Type := Program × Env × Room × State × MethodId × Array Value × List Frame × Method × Code × Nat × Nat × (State → Prop)
/-- THE JUDGEMENT: from the method's frame at pc, with these locals and this stack, over any heap that holds the memory M (u exceptions' room used), the machine comes to the aim -/
def VV (l : Launch) (D : va_G) (cs : Nat → ClassId) (ad : Nat → Nat) (nL : Nat) : Kx → Nat → Mm → Nat → List (Nat × Value) → List Value → Prop
  | (p, e, R, s, m, args, below, meth, c, c0, s0, Q), u, M, pc, lv, st => ∀ (H : Heap) (locs : List Loc) (ls : Array Slot), va_P D vwCl (wW cs ad M) H → va_S (fA ad s.heap.size) s.heap H locs → lv_has ls nL lv → W p l e R s m args below meth c H locs (c0 + u) (s0 + 6 * u) Q (F0 m pc ls st)
/-- what stays through a walk -/
def CX (D : va_G) (cs : Nat → ClassId) (ad : Nat → Nat) (cc : ByteArray) (nL : Nat) (own : String) (fr lo U : Nat) : Kx → Prop
  | (p, _, R, s, m, args, _, _, c, c0, s0, _) => p.tables.exec = Jvm.exec ∧ c.code = cc ∧ c.maxLocals = nL ∧ s.vm.findClass own = some m.cls ∧ (∀ w ∈ TT, w.before args s = true) ∧ va_K D vwCl (tyC cs) s ∧ (∀ M, va_D (fA ad s.heap.size) (wW cs ad M)) ∧ R.frames = fr ∧ R.locals = lo ∧ c0 + U ≤ R.cells ∧ s0 + 6 * U ≤ R.slots
def mI (M : Mm) (i k : Nat) (v : Int32) : Mm := (fun a => if a = i then upd (M.1 a) k v else M.1 a, M.2)
def mJ (M : Mm) (i k : Nat) (v : Int64) : Mm := (M.1, fun a => if a = i then vp_updL (M.2 a) k v else M.2 a)
def mA (M : Mm) (i : Nat) (f : Nat → Int32) : Mm := (fun a => if a = i then f else M.1 a, M.2)
theorem mI_ne (M : Mm) {i j k : Nat} {v : Int32} (h : j ≠ i) : (mI M i k v).1 j = M.1 j := if_neg h
theorem mI_eq (M : Mm) {i k : Nat} {v : Int32} : (mI M i k v).1 i = upd (M.1 i) k v := if_pos rfl
theorem mI_2 (M : Mm) {i k : Nat} {v : Int32} : (mI M i k v).2 = M.2 := rfl
theorem mJ_1 (M : Mm) {i k : Nat} {v : Int64} : (mJ M i k v).1 = M.1 := rfl
theorem mJ_ne (M : Mm) {i j k : Nat} {v : Int64} (h : j ≠ i) : (mJ M i k v).2 j = M.2 j := if_neg h
theorem mJ_eq (M : Mm) {i k : Nat} {v : Int64} : (mJ M i k v).2 i = vp_updL (M.2 i) k v := if_pos rfl
theorem mA_ne (M : Mm) {i j : Nat} {f : Nat → Int32} (h : j ≠ i) : (mA M i f).1 j = M.1 j := if_neg h
theorem mA_eq (M : Mm) {i : Nat} {f : Nat → Int32} : (mA M i f).1 i = f := if_pos rfl
theorem mA_2 (M : Mm) {i : Nat} {f : Nat → Int32} : (mA M i f).2 = M.2 := rfl
theorem upd_e (f : Nat → Int32) (k : Nat) (v : Int32) : upd f k v k = v := if_pos rfl
theorem upd_n (f : Nat → Int32) {k j : Nat} (v : Int32) (h : j ≠ k) : upd f k v j = f j := if_neg h
def bI (b : Bool) : Int32 := if b then 1 else 0
theorem bI_t : bI true = 1 := rfl
theorem bI_f : bI false = 0 := rfl
theorem bI_0 (b : Bool) : bI b = 0 ↔ b = false := by cases b <;> decide
theorem bI_n (b : Bool) : narrow .boolean (.int (bI b)) = .int (bI b) := by cases b <;> rfl
section VVS
variable {l : Launch} {D : va_G} {cs : Nat → ClassId} {ad : Nat → Nat} {nL : Nat} {κ : Kx} {u : Nat} {M : Mm} {pc : Nat} {lv : List (Nat × Value)} {st : List Value} {cc : ByteArray} {own : String} {fr lo U : Nat}
theorem r_iconst (C : CX D cs ad cc nL own fr lo U κ) {n : Int} (v : Int32) (d : decode cc pc = .ok (.iconst n, 1)) (hv : Int32.ofInt n = v) (k : VV l D cs ad nL κ u M (pc + 1) lv (.int v :: st)) : VV l D cs ad nL κ u M pc lv st := by
  obtain ⟨p, e, R, s, m, args, below, meth, c, c0, s0, Q⟩ := κ
  obtain ⟨hx, hb, hml, hown, hts, hK, hD, hfr, hlo, hc0, hs0⟩ := C
  intro H locs ls hP hS hl
  exact lv_iconst hx hb d hv (k H locs ls hP hS hl)
theorem r_bipush (C : CX D cs ad cc nL own fr lo U κ) {n : Int} (v : Int32) (d : decode cc pc = .ok (.bipush n, 2)) (hv : (Int8.ofInt n).toInt32 = v) (k : VV l D cs ad nL κ u M (pc + 2) lv (.int v :: st)) : VV l D cs ad nL κ u M pc lv st := by
  obtain ⟨p, e, R, s, m, args, below, meth, c, c0, s0, Q⟩ := κ
  obtain ⟨hx, hb, hml, hown, hts, hK, hD, hfr, hlo, hc0, hs0⟩ := C
  intro H locs ls hP hS hl
  exact lv_bipush hx hb d hv (k H locs ls hP hS hl)
theorem r_sipush (C : CX D cs ad cc nL own fr lo U κ) {n : Int} (v : Int32) (d : decode cc pc = .ok (.sipush n, 3)) (hv : (Int16.ofInt n).toInt32 = v) (k : VV l D cs ad nL κ u M (pc + 3) lv (.int v :: st)) : VV l D cs ad nL κ u M pc lv st := by
  obtain ⟨p, e, R, s, m, args, below, meth, c, c0, s0, Q⟩ := κ
  obtain ⟨hx, hb, hml, hown, hts, hK, hD, hfr, hlo, hc0, hs0⟩ := C
  intro H locs ls hP hS hl
  exact lv_sipush hx hb d hv (k H locs ls hP hS hl)
theorem r_lconst (C : CX D cs ad cc nL own fr lo U κ) {n : Fin 2} (v : Int64) (d : decode cc pc = .ok (.lconst n, 1)) (hv : Int64.ofNat (n : Nat) = v) (k : VV l D cs ad nL κ u M (pc + 1) lv (.long v :: st)) : VV l D cs ad nL κ u M pc lv st := by
  obtain ⟨p, e, R, s, m, args, below, meth, c, c0, s0, Q⟩ := κ
  obtain ⟨hx, hb, hml, hown, hts, hK, hD, hfr, hlo, hc0, hs0⟩ := C
  intro H locs ls hP hS hl
  exact lv_lconst hx hb d hv (k H locs ls hP hS hl)
theorem r_dconst0 (C : CX D cs ad cc nL own fr lo U κ) (d : decode cc pc = .ok (.dconst 0, 1)) (k : VV l D cs ad nL κ u M (pc + 1) lv (.double 0 :: st)) : VV l D cs ad nL κ u M pc lv st := by
  obtain ⟨p, e, R, s, m, args, below, meth, c, c0, s0, Q⟩ := κ
  obtain ⟨hx, hb, hml, hown, hts, hK, hD, hfr, hlo, hc0, hs0⟩ := C
  intro H locs ls hP hS hl
  exact lv_dconst0 hx hb d (k H locs ls hP hS hl)
theorem r_ldc (C : CX D cs ad cc nL own fr lo U κ) {i : Nat} (v : Int32) (w : Cond.constant own i v ∈ TT) (d : decode cc pc = .ok (.ldc i, 2)) (k : VV l D cs ad nL κ u M (pc + 2) lv (.int v :: st)) : VV l D cs ad nL κ u M pc lv st := by
  obtain ⟨p, e, R, s, m, args, below, meth, c, c0, s0, Q⟩ := κ
  obtain ⟨hx, hb, hml, hown, hts, hK, hD, hfr, hlo, hc0, hs0⟩ := C
  intro H locs ls hP hS hl
  exact lv_ldc hx hb hown (hts _ w) d (k H locs ls hP hS hl)
theorem r_ldcw (C : CX D cs ad cc nL own fr lo U κ) {i : Nat} (v : Int32) (w : Cond.constant own i v ∈ TT) (d : decode cc pc = .ok (.ldc_w i, 3)) (k : VV l D cs ad nL κ u M (pc + 3) lv (.int v :: st)) : VV l D cs ad nL κ u M pc lv st := by
  obtain ⟨p, e, R, s, m, args, below, meth, c, c0, s0, Q⟩ := κ
  obtain ⟨hx, hb, hml, hown, hts, hK, hD, hfr, hlo, hc0, hs0⟩ := C
  intro H locs ls hP hS hl
  exact lv_ldcw hx hb hown (hts _ w) d (k H locs ls hP hS hl)
theorem r_ldc2 (C : CX D cs ad cc nL own fr lo U κ) {i : Nat} (v : Int64) (w : Cond.constantLong own i v ∈ TT) (d : decode cc pc = .ok (.ldc2_w i, 3)) (k : VV l D cs ad nL κ u M (pc + 3) lv (.long v :: st)) : VV l D cs ad nL κ u M pc lv st := by
  obtain ⟨p, e, R, s, m, args, below, meth, c, c0, s0, Q⟩ := κ
  obtain ⟨hx, hb, hml, hown, hts, hK, hD, hfr, hlo, hc0, hs0⟩ := C
  intro H locs ls hP hS hl
  exact lv_ldc2 hx hb hown (hts _ w) d (k H locs ls hP hS hl)
theorem r_ldc2d (C : CX D cs ad cc nL own fr lo U κ) {i : Nat} (v : UInt64) (w : Cond.constantDouble own i v ∈ TT) (d : decode cc pc = .ok (.ldc2_w i, 3)) (k : VV l D cs ad nL κ u M (pc + 3) lv (.double v :: st)) : VV l D cs ad nL κ u M pc lv st := by
  obtain ⟨p, e, R, s, m, args, below, meth, c, c0, s0, Q⟩ := κ
  obtain ⟨hx, hb, hml, hown, hts, hK, hD, hfr, hlo, hc0, hs0⟩ := C
  intro H locs ls hP hS hl
  exact lv_ldc2d hx hb hown (hts _ w) d (k H locs ls hP hS hl)
theorem r_iload_n (C : CX D cs ad cc nL own fr lo U κ) {k9 : Fin 4} {i : Nat} {x : Int32} (d : decode cc pc = .ok (.iload_n k9, 1)) (hi : (k9 : Nat) = i) (j : Nat) (hj : lv[j]? = some (i, .int x)) (k : VV l D cs ad nL κ u M (pc + 1) lv (.int x :: st)) : VV l D cs ad nL κ u M pc lv st := by
  obtain ⟨p, e, R, s, m, args, below, meth, c, c0, s0, Q⟩ := κ
  obtain ⟨hx, hb, hml, hown, hts, hK, hD, hfr, hlo, hc0, hs0⟩ := C
  intro H locs ls hP hS hl
  exact lv_iload_n hx hb d hi (lv_at hl j hj) (k H locs ls hP hS hl)
theorem r_iload (C : CX D cs ad cc nL own fr lo U κ) {i : Nat} {x : Int32} (d : decode cc pc = .ok (.iload i, 2)) (j : Nat) (hj : lv[j]? = some (i, .int x)) (k : VV l D cs ad nL κ u M (pc + 2) lv (.int x :: st)) : VV l D cs ad nL κ u M pc lv st := by
  obtain ⟨p, e, R, s, m, args, below, meth, c, c0, s0, Q⟩ := κ
  obtain ⟨hx, hb, hml, hown, hts, hK, hD, hfr, hlo, hc0, hs0⟩ := C
  intro H locs ls hP hS hl
  exact lv_iload hx hb d (lv_at hl j hj) (k H locs ls hP hS hl)
theorem r_istore_n (C : CX D cs ad cc nL own fr lo U κ) {k9 : Fin 4} {i : Nat} {x : Int32} (lv2 : List (Nat × Value)) (d : decode cc pc = .ok (.istore_n k9, 1)) (hi : (k9 : Nat) = i) (hn : i < nL) (h2 : (i, Value.int x) :: lv.filter (fun q => !(q.1 == i) && !(q.1 + 1 == i && q.2.category == 2)) = lv2) (k : VV l D cs ad nL κ u M (pc + 1) lv2 st) : VV l D cs ad nL κ u M pc lv (.int x :: st) := by
  obtain ⟨p, e, R, s, m, args, below, meth, c, c0, s0, Q⟩ := κ
  obtain ⟨hx, hb, hml, hown, hts, hK, hD, hfr, hlo, hc0, hs0⟩ := C
  intro H locs ls hP hS hl
  exact lv_istore_n hx hb d hi hl hn h2 (fun ls hl => k H locs ls hP hS hl)
theorem r_istore (C : CX D cs ad cc nL own fr lo U κ) {i : Nat} {x : Int32} (lv2 : List (Nat × Value)) (d : decode cc pc = .ok (.istore i, 2)) (hn : i < nL) (h2 : (i, Value.int x) :: lv.filter (fun q => !(q.1 == i) && !(q.1 + 1 == i && q.2.category == 2)) = lv2) (k : VV l D cs ad nL κ u M (pc + 2) lv2 st) : VV l D cs ad nL κ u M pc lv (.int x :: st) := by
  obtain ⟨p, e, R, s, m, args, below, meth, c, c0, s0, Q⟩ := κ
  obtain ⟨hx, hb, hml, hown, hts, hK, hD, hfr, hlo, hc0, hs0⟩ := C
  intro H locs ls hP hS hl
  exact lv_istore hx hb d hl hn h2 (fun ls hl => k H locs ls hP hS hl)
theorem r_lload_n (C : CX D cs ad cc nL own fr lo U κ) {k9 : Fin 4} {i : Nat} {x : Int64} (d : decode cc pc = .ok (.lload_n k9, 1)) (hi : (k9 : Nat) = i) (j : Nat) (hj : lv[j]? = some (i, .long x)) (k : VV l D cs ad nL κ u M (pc + 1) lv (.long x :: st)) : VV l D cs ad nL κ u M pc lv st := by
  obtain ⟨p, e, R, s, m, args, below, meth, c, c0, s0, Q⟩ := κ
  obtain ⟨hx, hb, hml, hown, hts, hK, hD, hfr, hlo, hc0, hs0⟩ := C
  intro H locs ls hP hS hl
  exact lv_lload_n hx hb d hi (lv_at hl j hj) (k H locs ls hP hS hl)
theorem r_lload (C : CX D cs ad cc nL own fr lo U κ) {i : Nat} {x : Int64} (d : decode cc pc = .ok (.lload i, 2)) (j : Nat) (hj : lv[j]? = some (i, .long x)) (k : VV l D cs ad nL κ u M (pc + 2) lv (.long x :: st)) : VV l D cs ad nL κ u M pc lv st := by
  obtain ⟨p, e, R, s, m, args, below, meth, c, c0, s0, Q⟩ := κ
  obtain ⟨hx, hb, hml, hown, hts, hK, hD, hfr, hlo, hc0, hs0⟩ := C
  intro H locs ls hP hS hl
  exact lv_lload hx hb d (lv_at hl j hj) (k H locs ls hP hS hl)
theorem r_lstore_n (C : CX D cs ad cc nL own fr lo U κ) {k9 : Fin 4} {i : Nat} {x : Int64} (lv2 : List (Nat × Value)) (d : decode cc pc = .ok (.lstore_n k9, 1)) (hi : (k9 : Nat) = i) (hn : i + 1 < nL) (h2 : (i, Value.long x) :: lv.filter (fun q => !(q.1 == i) && (!(q.1 == i + 1) && !(q.1 + 1 == i && q.2.category == 2))) = lv2) (k : VV l D cs ad nL κ u M (pc + 1) lv2 st) : VV l D cs ad nL κ u M pc lv (.long x :: st) := by
  obtain ⟨p, e, R, s, m, args, below, meth, c, c0, s0, Q⟩ := κ
  obtain ⟨hx, hb, hml, hown, hts, hK, hD, hfr, hlo, hc0, hs0⟩ := C
  intro H locs ls hP hS hl
  exact lv_lstore_n hx hb d hi hl hn h2 (fun ls hl => k H locs ls hP hS hl)
theorem r_lstore (C : CX D cs ad cc nL own fr lo U κ) {i : Nat} {x : Int64} (lv2 : List (Nat × Value)) (d : decode cc pc = .ok (.lstore i, 2)) (hn : i + 1 < nL) (h2 : (i, Value.long x) :: lv.filter (fun q => !(q.1 == i) && (!(q.1 == i + 1) && !(q.1 + 1 == i && q.2.category == 2))) = lv2) (k : VV l D cs ad nL κ u M (pc + 2) lv2 st) : VV l D cs ad nL κ u M pc lv (.long x :: st) := by
  obtain ⟨p, e, R, s, m, args, below, meth, c, c0, s0, Q⟩ := κ
  obtain ⟨hx, hb, hml, hown, hts, hK, hD, hfr, hlo, hc0, hs0⟩ := C
  intro H locs ls hP hS hl
  exact lv_lstore hx hb d hl hn h2 (fun ls hl => k H locs ls hP hS hl)
theorem r_aload_n (C : CX D cs ad cc nL own fr lo U κ) {k9 : Fin 4} {i : Nat} {x : Nat} (d : decode cc pc = .ok (.aload_n k9, 1)) (hi : (k9 : Nat) = i) (j : Nat) (hj : lv[j]? = some (i, .ref x)) (k : VV l D cs ad nL κ u M (pc + 1) lv (.ref x :: st)) : VV l D cs ad nL κ u M pc lv st := by
  obtain ⟨p, e, R, s, m, args, below, meth, c, c0, s0, Q⟩ := κ
  obtain ⟨hx, hb, hml, hown, hts, hK, hD, hfr, hlo, hc0, hs0⟩ := C
  intro H locs ls hP hS hl
  exact lv_aload_n hx hb d hi (lv_at hl j hj) (k H locs ls hP hS hl)
theorem r_aload (C : CX D cs ad cc nL own fr lo U κ) {i : Nat} {x : Nat} (d : decode cc pc = .ok (.aload i, 2)) (j : Nat) (hj : lv[j]? = some (i, .ref x)) (k : VV l D cs ad nL κ u M (pc + 2) lv (.ref x :: st)) : VV l D cs ad nL κ u M pc lv st := by
  obtain ⟨p, e, R, s, m, args, below, meth, c, c0, s0, Q⟩ := κ
  obtain ⟨hx, hb, hml, hown, hts, hK, hD, hfr, hlo, hc0, hs0⟩ := C
  intro H locs ls hP hS hl
  exact lv_aload hx hb d (lv_at hl j hj) (k H locs ls hP hS hl)
theorem r_astore_n (C : CX D cs ad cc nL own fr lo U κ) {k9 : Fin 4} {i : Nat} {x : Nat} (lv2 : List (Nat × Value)) (d : decode cc pc = .ok (.astore_n k9, 1)) (hi : (k9 : Nat) = i) (hn : i < nL) (h2 : (i, Value.ref x) :: lv.filter (fun q => !(q.1 == i) && !(q.1 + 1 == i && q.2.category == 2)) = lv2) (k : VV l D cs ad nL κ u M (pc + 1) lv2 st) : VV l D cs ad nL κ u M pc lv (.ref x :: st) := by
  obtain ⟨p, e, R, s, m, args, below, meth, c, c0, s0, Q⟩ := κ
  obtain ⟨hx, hb, hml, hown, hts, hK, hD, hfr, hlo, hc0, hs0⟩ := C
  intro H locs ls hP hS hl
  exact lv_astore_n hx hb d hi hl hn h2 (fun ls hl => k H locs ls hP hS hl)
theorem r_astore (C : CX D cs ad cc nL own fr lo U κ) {i : Nat} {x : Nat} (lv2 : List (Nat × Value)) (d : decode cc pc = .ok (.astore i, 2)) (hn : i < nL) (h2 : (i, Value.ref x) :: lv.filter (fun q => !(q.1 == i) && !(q.1 + 1 == i && q.2.category == 2)) = lv2) (k : VV l D cs ad nL κ u M (pc + 2) lv2 st) : VV l D cs ad nL κ u M pc lv (.ref x :: st) := by
  obtain ⟨p, e, R, s, m, args, below, meth, c, c0, s0, Q⟩ := κ
  obtain ⟨hx, hb, hml, hown, hts, hK, hD, hfr, hlo, hc0, hs0⟩ := C
  intro H locs ls hP hS hl
  exact lv_astore hx hb d hl hn h2 (fun ls hl => k H locs ls hP hS hl)
theorem r_dload_n (C : CX D cs ad cc nL own fr lo U κ) {k9 : Fin 4} {i : Nat} {x : UInt64} (d : decode cc pc = .ok (.dload_n k9, 1)) (hi : (k9 : Nat) = i) (j : Nat) (hj : lv[j]? = some (i, .double x)) (k : VV l D cs ad nL κ u M (pc + 1) lv (.double x :: st)) : VV l D cs ad nL κ u M pc lv st := by
  obtain ⟨p, e, R, s, m, args, below, meth, c, c0, s0, Q⟩ := κ
  obtain ⟨hx, hb, hml, hown, hts, hK, hD, hfr, hlo, hc0, hs0⟩ := C
  intro H locs ls hP hS hl
  exact lv_dload_n hx hb d hi (lv_at hl j hj) (k H locs ls hP hS hl)
theorem r_dload (C : CX D cs ad cc nL own fr lo U κ) {i : Nat} {x : UInt64} (d : decode cc pc = .ok (.dload i, 2)) (j : Nat) (hj : lv[j]? = some (i, .double x)) (k : VV l D cs ad nL κ u M (pc + 2) lv (.double x :: st)) : VV l D cs ad nL κ u M pc lv st := by
  obtain ⟨p, e, R, s, m, args, below, meth, c, c0, s0, Q⟩ := κ
  obtain ⟨hx, hb, hml, hown, hts, hK, hD, hfr, hlo, hc0, hs0⟩ := C
  intro H locs ls hP hS hl
  exact lv_dload hx hb d (lv_at hl j hj) (k H locs ls hP hS hl)
theorem r_dstore_n (C : CX D cs ad cc nL own fr lo U κ) {k9 : Fin 4} {i : Nat} {x : UInt64} (lv2 : List (Nat × Value)) (d : decode cc pc = .ok (.dstore_n k9, 1)) (hi : (k9 : Nat) = i) (hn : i + 1 < nL) (h2 : (i, Value.double x) :: lv.filter (fun q => !(q.1 == i) && (!(q.1 == i + 1) && !(q.1 + 1 == i && q.2.category == 2))) = lv2) (k : VV l D cs ad nL κ u M (pc + 1) lv2 st) : VV l D cs ad nL κ u M pc lv (.double x :: st) := by
  obtain ⟨p, e, R, s, m, args, below, meth, c, c0, s0, Q⟩ := κ
  obtain ⟨hx, hb, hml, hown, hts, hK, hD, hfr, hlo, hc0, hs0⟩ := C
  intro H locs ls hP hS hl
  exact lv_dstore_n hx hb d hi hl hn h2 (fun ls hl => k H locs ls hP hS hl)
theorem r_dstore (C : CX D cs ad cc nL own fr lo U κ) {i : Nat} {x : UInt64} (lv2 : List (Nat × Value)) (d : decode cc pc = .ok (.dstore i, 2)) (hn : i + 1 < nL) (h2 : (i, Value.double x) :: lv.filter (fun q => !(q.1 == i) && (!(q.1 == i + 1) && !(q.1 + 1 == i && q.2.category == 2))) = lv2) (k : VV l D cs ad nL κ u M (pc + 2) lv2 st) : VV l D cs ad nL κ u M pc lv (.double x :: st) := by
  obtain ⟨p, e, R, s, m, args, below, meth, c, c0, s0, Q⟩ := κ
  obtain ⟨hx, hb, hml, hown, hts, hK, hD, hfr, hlo, hc0, hs0⟩ := C
  intro H locs ls hP hS hl
  exact lv_dstore hx hb d hl hn h2 (fun ls hl => k H locs ls hP hS hl)
theorem r_iinc (C : CX D cs ad cc nL own fr lo U κ) {i j : Nat} {n : Int} {x : Int32} (v : Int32) (lv2 : List (Nat × Value)) (d : decode cc pc = .ok (.iinc i n, 3)) (hj : lv[j]? = some (i, .int x)) (hv : x + Int32.ofInt n = v) (hn : i < nL) (h2 : (i, Value.int v) :: lv.filter (fun q => !(q.1 == i) && !(q.1 + 1 == i && q.2.category == 2)) = lv2) (k : VV l D cs ad nL κ u M (pc + 3) lv2 st) : VV l D cs ad nL κ u M pc lv st := by
  obtain ⟨p, e, R, s, m, args, below, meth, c, c0, s0, Q⟩ := κ
  obtain ⟨hx, hb, hml, hown, hts, hK, hD, hfr, hlo, hc0, hs0⟩ := C
  intro H locs ls hP hS hl
  exact lv_iinc hx hb d hl hj hv hn h2 (fun ls hl => k H locs ls hP hS hl)
theorem r_iadd (C : CX D cs ad cc nL own fr lo U κ) {x y : Int32} (d : decode cc pc = .ok (.iadd, 1)) (k : VV l D cs ad nL κ u M (pc + 1) lv (.int (x + y) :: st)) : VV l D cs ad nL κ u M pc lv (.int y :: .int x :: st) := by
  obtain ⟨p, e, R, s, m, args, below, meth, c, c0, s0, Q⟩ := κ
  obtain ⟨hx, hb, hml, hown, hts, hK, hD, hfr, hlo, hc0, hs0⟩ := C
  intro H locs ls hP hS hl
  exact lv_iadd hx hb d (k H locs ls hP hS hl)
theorem r_isub (C : CX D cs ad cc nL own fr lo U κ) {x y : Int32} (d : decode cc pc = .ok (.isub, 1)) (k : VV l D cs ad nL κ u M (pc + 1) lv (.int (x - y) :: st)) : VV l D cs ad nL κ u M pc lv (.int y :: .int x :: st) := by
  obtain ⟨p, e, R, s, m, args, below, meth, c, c0, s0, Q⟩ := κ
  obtain ⟨hx, hb, hml, hown, hts, hK, hD, hfr, hlo, hc0, hs0⟩ := C
  intro H locs ls hP hS hl
  exact lv_isub hx hb d (k H locs ls hP hS hl)
theorem r_imul (C : CX D cs ad cc nL own fr lo U κ) {x y : Int32} (d : decode cc pc = .ok (.imul, 1)) (k : VV l D cs ad nL κ u M (pc + 1) lv (.int (x * y) :: st)) : VV l D cs ad nL κ u M pc lv (.int y :: .int x :: st) := by
  obtain ⟨p, e, R, s, m, args, below, meth, c, c0, s0, Q⟩ := κ
  obtain ⟨hx, hb, hml, hown, hts, hK, hD, hfr, hlo, hc0, hs0⟩ := C
  intro H locs ls hP hS hl
  exact lv_imul hx hb d (k H locs ls hP hS hl)
theorem r_iand (C : CX D cs ad cc nL own fr lo U κ) {x y : Int32} (d : decode cc pc = .ok (.iand, 1)) (k : VV l D cs ad nL κ u M (pc + 1) lv (.int (x &&& y) :: st)) : VV l D cs ad nL κ u M pc lv (.int y :: .int x :: st) := by
  obtain ⟨p, e, R, s, m, args, below, meth, c, c0, s0, Q⟩ := κ
  obtain ⟨hx, hb, hml, hown, hts, hK, hD, hfr, hlo, hc0, hs0⟩ := C
  intro H locs ls hP hS hl
  exact lv_iand hx hb d (k H locs ls hP hS hl)
theorem r_ior (C : CX D cs ad cc nL own fr lo U κ) {x y : Int32} (d : decode cc pc = .ok (.ior, 1)) (k : VV l D cs ad nL κ u M (pc + 1) lv (.int (x ||| y) :: st)) : VV l D cs ad nL κ u M pc lv (.int y :: .int x :: st) := by
  obtain ⟨p, e, R, s, m, args, below, meth, c, c0, s0, Q⟩ := κ
  obtain ⟨hx, hb, hml, hown, hts, hK, hD, hfr, hlo, hc0, hs0⟩ := C
  intro H locs ls hP hS hl
  exact lv_ior hx hb d (k H locs ls hP hS hl)
theorem r_ixor (C : CX D cs ad cc nL own fr lo U κ) {x y : Int32} (d : decode cc pc = .ok (.ixor, 1)) (k : VV l D cs ad nL κ u M (pc + 1) lv (.int (x ^^^ y) :: st)) : VV l D cs ad nL κ u M pc lv (.int y :: .int x :: st) := by
  obtain ⟨p, e, R, s, m, args, below, meth, c, c0, s0, Q⟩ := κ
  obtain ⟨hx, hb, hml, hown, hts, hK, hD, hfr, hlo, hc0, hs0⟩ := C
  intro H locs ls hP hS hl
  exact lv_ixor hx hb d (k H locs ls hP hS hl)
theorem r_ladd (C : CX D cs ad cc nL own fr lo U κ) {x y : Int64} (d : decode cc pc = .ok (.ladd, 1)) (k : VV l D cs ad nL κ u M (pc + 1) lv (.long (x + y) :: st)) : VV l D cs ad nL κ u M pc lv (.long y :: .long x :: st) := by
  obtain ⟨p, e, R, s, m, args, below, meth, c, c0, s0, Q⟩ := κ
  obtain ⟨hx, hb, hml, hown, hts, hK, hD, hfr, hlo, hc0, hs0⟩ := C
  intro H locs ls hP hS hl
  exact lv_ladd hx hb d (k H locs ls hP hS hl)
theorem r_lsub (C : CX D cs ad cc nL own fr lo U κ) {x y : Int64} (d : decode cc pc = .ok (.lsub, 1)) (k : VV l D cs ad nL κ u M (pc + 1) lv (.long (x - y) :: st)) : VV l D cs ad nL κ u M pc lv (.long y :: .long x :: st) := by
  obtain ⟨p, e, R, s, m, args, below, meth, c, c0, s0, Q⟩ := κ
  obtain ⟨hx, hb, hml, hown, hts, hK, hD, hfr, hlo, hc0, hs0⟩ := C
  intro H locs ls hP hS hl
  exact lv_lsub hx hb d (k H locs ls hP hS hl)
theorem r_lmul (C : CX D cs ad cc nL own fr lo U κ) {x y : Int64} (d : decode cc pc = .ok (.lmul, 1)) (k : VV l D cs ad nL κ u M (pc + 1) lv (.long (x * y) :: st)) : VV l D cs ad nL κ u M pc lv (.long y :: .long x :: st) := by
  obtain ⟨p, e, R, s, m, args, below, meth, c, c0, s0, Q⟩ := κ
  obtain ⟨hx, hb, hml, hown, hts, hK, hD, hfr, hlo, hc0, hs0⟩ := C
  intro H locs ls hP hS hl
  exact lv_lmul hx hb d (k H locs ls hP hS hl)
theorem r_land (C : CX D cs ad cc nL own fr lo U κ) {x y : Int64} (d : decode cc pc = .ok (.land, 1)) (k : VV l D cs ad nL κ u M (pc + 1) lv (.long (x &&& y) :: st)) : VV l D cs ad nL κ u M pc lv (.long y :: .long x :: st) := by
  obtain ⟨p, e, R, s, m, args, below, meth, c, c0, s0, Q⟩ := κ
  obtain ⟨hx, hb, hml, hown, hts, hK, hD, hfr, hlo, hc0, hs0⟩ := C
  intro H locs ls hP hS hl
  exact lv_land hx hb d (k H locs ls hP hS hl)
theorem r_lor (C : CX D cs ad cc nL own fr lo U κ) {x y : Int64} (d : decode cc pc = .ok (.lor, 1)) (k : VV l D cs ad nL κ u M (pc + 1) lv (.long (x ||| y) :: st)) : VV l D cs ad nL κ u M pc lv (.long y :: .long x :: st) := by
  obtain ⟨p, e, R, s, m, args, below, meth, c, c0, s0, Q⟩ := κ
  obtain ⟨hx, hb, hml, hown, hts, hK, hD, hfr, hlo, hc0, hs0⟩ := C
  intro H locs ls hP hS hl
  exact lv_lor hx hb d (k H locs ls hP hS hl)
theorem r_idiv (C : CX D cs ad cc nL own fr lo U κ) {x y : Int32} (d : decode cc pc = .ok (.idiv, 1)) (hne : ¬ y = 0) (k : VV l D cs ad nL κ u M (pc + 1) lv (.int (x / y) :: st)) : VV l D cs ad nL κ u M pc lv (.int y :: .int x :: st) := by
  obtain ⟨p, e, R, s, m, args, below, meth, c, c0, s0, Q⟩ := κ
  obtain ⟨hx, hb, hml, hown, hts, hK, hD, hfr, hlo, hc0, hs0⟩ := C
  intro H locs ls hP hS hl
  exact lv_idiv hx hb d hne (k H locs ls hP hS hl)
theorem r_irem (C : CX D cs ad cc nL own fr lo U κ) {x y : Int32} (d : decode cc pc = .ok (.irem, 1)) (hne : ¬ y = 0) (k : VV l D cs ad nL κ u M (pc + 1) lv (.int (x - x / y * y) :: st)) : VV l D cs ad nL κ u M pc lv (.int y :: .int x :: st) := by
  obtain ⟨p, e, R, s, m, args, below, meth, c, c0, s0, Q⟩ := κ
  obtain ⟨hx, hb, hml, hown, hts, hK, hD, hfr, hlo, hc0, hs0⟩ := C
  intro H locs ls hP hS hl
  exact lv_irem hx hb d hne (k H locs ls hP hS hl)
theorem r_ldiv (C : CX D cs ad cc nL own fr lo U κ) {x y : Int64} (d : decode cc pc = .ok (.ldiv, 1)) (hne : ¬ y = 0) (k : VV l D cs ad nL κ u M (pc + 1) lv (.long (x / y) :: st)) : VV l D cs ad nL κ u M pc lv (.long y :: .long x :: st) := by
  obtain ⟨p, e, R, s, m, args, below, meth, c, c0, s0, Q⟩ := κ
  obtain ⟨hx, hb, hml, hown, hts, hK, hD, hfr, hlo, hc0, hs0⟩ := C
  intro H locs ls hP hS hl
  exact lv_ldiv hx hb d hne (k H locs ls hP hS hl)
theorem r_lrem (C : CX D cs ad cc nL own fr lo U κ) {x y : Int64} (d : decode cc pc = .ok (.lrem, 1)) (hne : ¬ y = 0) (k : VV l D cs ad nL κ u M (pc + 1) lv (.long (x - x / y * y) :: st)) : VV l D cs ad nL κ u M pc lv (.long y :: .long x :: st) := by
  obtain ⟨p, e, R, s, m, args, below, meth, c, c0, s0, Q⟩ := κ
  obtain ⟨hx, hb, hml, hown, hts, hK, hD, hfr, hlo, hc0, hs0⟩ := C
  intro H locs ls hP hS hl
  exact lv_lrem hx hb d hne (k H locs ls hP hS hl)
theorem r_ishl (C : CX D cs ad cc nL own fr lo U κ) {x y : Int32} (d : decode cc pc = .ok (.ishl, 1)) (k : VV l D cs ad nL κ u M (pc + 1) lv (.int (x <<< (y &&& 31)) :: st)) : VV l D cs ad nL κ u M pc lv (.int y :: .int x :: st) := by
  obtain ⟨p, e, R, s, m, args, below, meth, c, c0, s0, Q⟩ := κ
  obtain ⟨hx, hb, hml, hown, hts, hK, hD, hfr, hlo, hc0, hs0⟩ := C
  intro H locs ls hP hS hl
  exact lv_ishl hx hb d (k H locs ls hP hS hl)
theorem r_ishr (C : CX D cs ad cc nL own fr lo U κ) {x y : Int32} (d : decode cc pc = .ok (.ishr, 1)) (k : VV l D cs ad nL κ u M (pc + 1) lv (.int (x >>> (y &&& 31)) :: st)) : VV l D cs ad nL κ u M pc lv (.int y :: .int x :: st) := by
  obtain ⟨p, e, R, s, m, args, below, meth, c, c0, s0, Q⟩ := κ
  obtain ⟨hx, hb, hml, hown, hts, hK, hD, hfr, hlo, hc0, hs0⟩ := C
  intro H locs ls hP hS hl
  exact lv_ishr hx hb d (k H locs ls hP hS hl)
theorem r_iushr (C : CX D cs ad cc nL own fr lo U κ) {x y : Int32} (d : decode cc pc = .ok (.iushr, 1)) (k : VV l D cs ad nL κ u M (pc + 1) lv (.int (x.toUInt32 >>> (y.toUInt32 &&& Int32.toUInt32 31)).toInt32 :: st)) : VV l D cs ad nL κ u M pc lv (.int y :: .int x :: st) := by
  obtain ⟨p, e, R, s, m, args, below, meth, c, c0, s0, Q⟩ := κ
  obtain ⟨hx, hb, hml, hown, hts, hK, hD, hfr, hlo, hc0, hs0⟩ := C
  intro H locs ls hP hS hl
  exact lv_iushr hx hb d rfl (k H locs ls hP hS hl)
theorem r_lshl (C : CX D cs ad cc nL own fr lo U κ) {x : Int64} {y : Int32} (d : decode cc pc = .ok (.lshl, 1)) (k : VV l D cs ad nL κ u M (pc + 1) lv (.long (x <<< (y.toInt64 &&& 63)) :: st)) : VV l D cs ad nL κ u M pc lv (.int y :: .long x :: st) := by
  obtain ⟨p, e, R, s, m, args, below, meth, c, c0, s0, Q⟩ := κ
  obtain ⟨hx, hb, hml, hown, hts, hK, hD, hfr, hlo, hc0, hs0⟩ := C
  intro H locs ls hP hS hl
  exact lv_lshl hx hb d rfl (k H locs ls hP hS hl)
theorem r_i2l (C : CX D cs ad cc nL own fr lo U κ) {x : Int32} (d : decode cc pc = .ok (.i2l, 1)) (k : VV l D cs ad nL κ u M (pc + 1) lv (.long x.toInt64 :: st)) : VV l D cs ad nL κ u M pc lv (.int x :: st) := by
  obtain ⟨p, e, R, s, m, args, below, meth, c, c0, s0, Q⟩ := κ
  obtain ⟨hx, hb, hml, hown, hts, hK, hD, hfr, hlo, hc0, hs0⟩ := C
  intro H locs ls hP hS hl
  exact lv_i2l hx hb d rfl (k H locs ls hP hS hl)
theorem r_l2i (C : CX D cs ad cc nL own fr lo U κ) {x : Int64} (d : decode cc pc = .ok (.l2i, 1)) (k : VV l D cs ad nL κ u M (pc + 1) lv (.int x.toInt32 :: st)) : VV l D cs ad nL κ u M pc lv (.long x :: st) := by
  obtain ⟨p, e, R, s, m, args, below, meth, c, c0, s0, Q⟩ := κ
  obtain ⟨hx, hb, hml, hown, hts, hK, hD, hfr, hlo, hc0, hs0⟩ := C
  intro H locs ls hP hS hl
  exact lv_l2i hx hb d rfl (k H locs ls hP hS hl)
theorem r_i2c (C : CX D cs ad cc nL own fr lo U κ) {x : Int32} (d : decode cc pc = .ok (.i2c, 1)) (k : VV l D cs ad nL κ u M (pc + 1) lv (.int (x.toUInt32 % 65536).toInt32 :: st)) : VV l D cs ad nL κ u M pc lv (.int x :: st) := by
  obtain ⟨p, e, R, s, m, args, below, meth, c, c0, s0, Q⟩ := κ
  obtain ⟨hx, hb, hml, hown, hts, hK, hD, hfr, hlo, hc0, hs0⟩ := C
  intro H locs ls hP hS hl
  exact lv_i2c hx hb d rfl (k H locs ls hP hS hl)
theorem r_lcmp (C : CX D cs ad cc nL own fr lo U κ) {x y : Int64} (d : decode cc pc = .ok (.lcmp, 1)) (k : VV l D cs ad nL κ u M (pc + 1) lv (.int (lg_cmp x y) :: st)) : VV l D cs ad nL κ u M pc lv (.long y :: .long x :: st) := by
  obtain ⟨p, e, R, s, m, args, below, meth, c, c0, s0, Q⟩ := κ
  obtain ⟨hx, hb, hml, hown, hts, hK, hD, hfr, hlo, hc0, hs0⟩ := C
  intro H locs ls hP hS hl
  exact W.lcmp hx hb d (k H locs ls hP hS hl)
theorem r_dcmp (C : CX D cs ad cc nL own fr lo U κ) {x y : UInt64} {op : CmpOp} (d : decode cc pc = .ok (.dcmp op, 1)) (k : VV l D cs ad nL κ u M (pc + 1) lv (.int (Op.cmpValue (FP.dcmp x y) op) :: st)) : VV l D cs ad nL κ u M pc lv (.double y :: .double x :: st) := by
  obtain ⟨p, e, R, s, m, args, below, meth, c, c0, s0, Q⟩ := κ
  obtain ⟨hx, hb, hml, hown, hts, hK, hD, hfr, hlo, hc0, hs0⟩ := C
  intro H locs ls hP hS hl
  exact lv_dcmp hx hb d (k H locs ls hP hS hl)
theorem r_dmul (C : CX D cs ad cc nL own fr lo U κ) {x y : UInt64} (d : decode cc pc = .ok (.dmul, 1)) (hne : vf_n64 (FP.dmul x y)) (k : VV l D cs ad nL κ u M (pc + 1) lv (.double (FP.dmul x y) :: st)) : VV l D cs ad nL κ u M pc lv (.double y :: .double x :: st) := by
  obtain ⟨p, e, R, s, m, args, below, meth, c, c0, s0, Q⟩ := κ
  obtain ⟨hx, hb, hml, hown, hts, hK, hD, hfr, hlo, hc0, hs0⟩ := C
  intro H locs ls hP hS hl
  exact lv_dmul hx hb d hne (k H locs ls hP hS hl)
theorem r_ddiv (C : CX D cs ad cc nL own fr lo U κ) {x y : UInt64} (d : decode cc pc = .ok (.ddiv, 1)) (hne : vf_n64 (FP.ddiv x y)) (k : VV l D cs ad nL κ u M (pc + 1) lv (.double (FP.ddiv x y) :: st)) : VV l D cs ad nL κ u M pc lv (.double y :: .double x :: st) := by
  obtain ⟨p, e, R, s, m, args, below, meth, c, c0, s0, Q⟩ := κ
  obtain ⟨hx, hb, hml, hown, hts, hK, hD, hfr, hlo, hc0, hs0⟩ := C
  intro H locs ls hP hS hl
  exact lv_ddiv hx hb d hne (k H locs ls hP hS hl)
theorem r_dsub (C : CX D cs ad cc nL own fr lo U κ) {x y : UInt64} (d : decode cc pc = .ok (.dsub, 1)) (hne : vf_n64 (FP.dsub x y)) (k : VV l D cs ad nL κ u M (pc + 1) lv (.double (FP.dsub x y) :: st)) : VV l D cs ad nL κ u M pc lv (.double y :: .double x :: st) := by
  obtain ⟨p, e, R, s, m, args, below, meth, c, c0, s0, Q⟩ := κ
  obtain ⟨hx, hb, hml, hown, hts, hK, hD, hfr, hlo, hc0, hs0⟩ := C
  intro H locs ls hP hS hl
  exact lv_dsub hx hb d hne (k H locs ls hP hS hl)
theorem r_dadd (C : CX D cs ad cc nL own fr lo U κ) {x y : UInt64} (d : decode cc pc = .ok (.dadd, 1)) (hne : vf_n64 (FP.dadd x y)) (k : VV l D cs ad nL κ u M (pc + 1) lv (.double (FP.dadd x y) :: st)) : VV l D cs ad nL κ u M pc lv (.double y :: .double x :: st) := by
  obtain ⟨p, e, R, s, m, args, below, meth, c, c0, s0, Q⟩ := κ
  obtain ⟨hx, hb, hml, hown, hts, hK, hD, hfr, hlo, hc0, hs0⟩ := C
  intro H locs ls hP hS hl
  exact lv_dadd hx hb d hne (k H locs ls hP hS hl)
theorem r_i2d (C : CX D cs ad cc nL own fr lo U κ) {x : Int32} (d : decode cc pc = .ok (.i2d, 1)) (k : VV l D cs ad nL κ u M (pc + 1) lv (.double (FP.i2d x) :: st)) : VV l D cs ad nL κ u M pc lv (.int x :: st) := by
  obtain ⟨p, e, R, s, m, args, below, meth, c, c0, s0, Q⟩ := κ
  obtain ⟨hx, hb, hml, hown, hts, hK, hD, hfr, hlo, hc0, hs0⟩ := C
  intro H locs ls hP hS hl
  exact lv_i2d hx hb d (k H locs ls hP hS hl)
theorem r_l2d (C : CX D cs ad cc nL own fr lo U κ) {x : Int64} (d : decode cc pc = .ok (.l2d, 1)) (k : VV l D cs ad nL κ u M (pc + 1) lv (.double (FP.l2d x) :: st)) : VV l D cs ad nL κ u M pc lv (.long x :: st) := by
  obtain ⟨p, e, R, s, m, args, below, meth, c, c0, s0, Q⟩ := κ
  obtain ⟨hx, hb, hml, hown, hts, hK, hD, hfr, hlo, hc0, hs0⟩ := C
  intro H locs ls hP hS hl
  exact lv_l2d hx hb d (k H locs ls hP hS hl)
theorem r_d2l (C : CX D cs ad cc nL own fr lo U κ) {x : UInt64} (d : decode cc pc = .ok (.d2l, 1)) (k : VV l D cs ad nL κ u M (pc + 1) lv (.long (FP.d2l x) :: st)) : VV l D cs ad nL κ u M pc lv (.double x :: st) := by
  obtain ⟨p, e, R, s, m, args, below, meth, c, c0, s0, Q⟩ := κ
  obtain ⟨hx, hb, hml, hown, hts, hK, hD, hfr, hlo, hc0, hs0⟩ := C
  intro H locs ls hP hS hl
  exact lv_d2l hx hb d (k H locs ls hP hS hl)
theorem r_dup (C : CX D cs ad cc nL own fr lo U κ) {v : Value} (d : decode cc pc = .ok (.dup, 1)) (h1 : v.category = 1) (k : VV l D cs ad nL κ u M (pc + 1) lv (v :: v :: st)) : VV l D cs ad nL κ u M pc lv (v :: st) := by
  obtain ⟨p, e, R, s, m, args, below, meth, c, c0, s0, Q⟩ := κ
  obtain ⟨hx, hb, hml, hown, hts, hK, hD, hfr, hlo, hc0, hs0⟩ := C
  intro H locs ls hP hS hl
  exact lv_dup hx hb d h1 (k H locs ls hP hS hl)
theorem r_pop (C : CX D cs ad cc nL own fr lo U κ) {v : Value} (d : decode cc pc = .ok (.pop, 1)) (h1 : v.category = 1) (k : VV l D cs ad nL κ u M (pc + 1) lv st) : VV l D cs ad nL κ u M pc lv (v :: st) := by
  obtain ⟨p, e, R, s, m, args, below, meth, c, c0, s0, Q⟩ := κ
  obtain ⟨hx, hb, hml, hown, hts, hK, hD, hfr, hlo, hc0, hs0⟩ := C
  intro H locs ls hP hS hl
  exact lv_pop hx hb d h1 (k H locs ls hP hS hl)
theorem r_dup_x1 (C : CX D cs ad cc nL own fr lo U κ) {v w : Value} (d : decode cc pc = .ok (.dup_x1, 1)) (h1 : v.category = 1) (h2 : w.category = 1) (k : VV l D cs ad nL κ u M (pc + 1) lv (v :: w :: v :: st)) : VV l D cs ad nL κ u M pc lv (v :: w :: st) := by
  obtain ⟨p, e, R, s, m, args, below, meth, c, c0, s0, Q⟩ := κ
  obtain ⟨hx, hb, hml, hown, hts, hK, hD, hfr, hlo, hc0, hs0⟩ := C
  intro H locs ls hP hS hl
  exact lv_dup_x1 hx hb d h1 h2 (k H locs ls hP hS hl)
theorem r_dup_x2 (C : CX D cs ad cc nL own fr lo U κ) {v w x : Value} (d : decode cc pc = .ok (.dup_x2, 1)) (h1 : v.category = 1) (h2 : w.category = 1) (h3 : x.category = 1) (k : VV l D cs ad nL κ u M (pc + 1) lv (v :: w :: x :: v :: st)) : VV l D cs ad nL κ u M pc lv (v :: w :: x :: st) := by
  obtain ⟨p, e, R, s, m, args, below, meth, c, c0, s0, Q⟩ := κ
  obtain ⟨hx, hb, hml, hown, hts, hK, hD, hfr, hlo, hc0, hs0⟩ := C
  intro H locs ls hP hS hl
  exact lv_dup_x2 hx hb d h1 h2 h3 (k H locs ls hP hS hl)
theorem r_dup2_11 (C : CX D cs ad cc nL own fr lo U κ) {v w : Value} (d : decode cc pc = .ok (.dup2, 1)) (h1 : v.category = 1) (h2 : w.category = 1) (k : VV l D cs ad nL κ u M (pc + 1) lv (v :: w :: v :: w :: st)) : VV l D cs ad nL κ u M pc lv (v :: w :: st) := by
  obtain ⟨p, e, R, s, m, args, below, meth, c, c0, s0, Q⟩ := κ
  obtain ⟨hx, hb, hml, hown, hts, hK, hD, hfr, hlo, hc0, hs0⟩ := C
  intro H locs ls hP hS hl
  exact lv_dup2_11 hx hb d h1 h2 (k H locs ls hP hS hl)
theorem r_dup2_2 (C : CX D cs ad cc nL own fr lo U κ) {v : Value} (d : decode cc pc = .ok (.dup2, 1)) (h1 : v.category = 2) (k : VV l D cs ad nL κ u M (pc + 1) lv (v :: v :: st)) : VV l D cs ad nL κ u M pc lv (v :: st) := by
  obtain ⟨p, e, R, s, m, args, below, meth, c, c0, s0, Q⟩ := κ
  obtain ⟨hx, hb, hml, hown, hts, hK, hD, hfr, hlo, hc0, hs0⟩ := C
  intro H locs ls hP hS hl
  exact lv_dup2_2 hx hb d h1 (k H locs ls hP hS hl)
theorem r_goto (C : CX D cs ad cc nL own fr lo U κ) {off : Int} (tgt : Nat) (d : decode cc pc = .ok (.goto off, 3)) (ht : (pc : Int) + off = (tgt : Int)) (k : VV l D cs ad nL κ u M tgt lv st) : VV l D cs ad nL κ u M pc lv st := by
  obtain ⟨p, e, R, s, m, args, below, meth, c, c0, s0, Q⟩ := κ
  obtain ⟨hx, hb, hml, hown, hts, hK, hD, hfr, hlo, hc0, hs0⟩ := C
  intro H locs ls hP hS hl
  exact lv_goto hx hb d ht (k H locs ls hP hS hl)
theorem r_if_eq (C : CX D cs ad cc nL own fr lo U κ) {x : Int32} {off : Int} (tgt : Nat) (d : decode cc pc = .ok (.ifCond .eq off, 3)) (ht : (pc : Int) + off = (tgt : Int)) (kt : x = 0 → VV l D cs ad nL κ u M tgt lv st) (kf : ¬ (x = 0) → VV l D cs ad nL κ u M (pc + 3) lv st) : VV l D cs ad nL κ u M pc lv (.int x :: st) := by
  obtain ⟨p, e, R, s, m, args, below, meth, c, c0, s0, Q⟩ := κ
  obtain ⟨hx, hb, hml, hown, hts, hK, hD, hfr, hlo, hc0, hs0⟩ := C
  intro H locs ls hP hS hl
  exact lv_if_eq hx hb d ht (fun h => kt (by first | exact h | simpa using h) H locs ls hP hS hl) (fun h => kf (by first | exact h | simpa using h) H locs ls hP hS hl)
theorem r_if_ne (C : CX D cs ad cc nL own fr lo U κ) {x : Int32} {off : Int} (tgt : Nat) (d : decode cc pc = .ok (.ifCond .ne off, 3)) (ht : (pc : Int) + off = (tgt : Int)) (kt : ¬ x = 0 → VV l D cs ad nL κ u M tgt lv st) (kf : x = 0 → VV l D cs ad nL κ u M (pc + 3) lv st) : VV l D cs ad nL κ u M pc lv (.int x :: st) := by
  obtain ⟨p, e, R, s, m, args, below, meth, c, c0, s0, Q⟩ := κ
  obtain ⟨hx, hb, hml, hown, hts, hK, hD, hfr, hlo, hc0, hs0⟩ := C
  intro H locs ls hP hS hl
  exact lv_if_ne hx hb d ht (fun h => kt (by first | exact h | simpa using h) H locs ls hP hS hl) (fun h => kf (by first | exact h | simpa using h) H locs ls hP hS hl)
theorem r_if_lt (C : CX D cs ad cc nL own fr lo U κ) {x : Int32} {off : Int} (tgt : Nat) (d : decode cc pc = .ok (.ifCond .lt off, 3)) (ht : (pc : Int) + off = (tgt : Int)) (kt : x < 0 → VV l D cs ad nL κ u M tgt lv st) (kf : ¬ (x < 0) → VV l D cs ad nL κ u M (pc + 3) lv st) : VV l D cs ad nL κ u M pc lv (.int x :: st) := by
  obtain ⟨p, e, R, s, m, args, below, meth, c, c0, s0, Q⟩ := κ
  obtain ⟨hx, hb, hml, hown, hts, hK, hD, hfr, hlo, hc0, hs0⟩ := C
  intro H locs ls hP hS hl
  exact lv_if_lt hx hb d ht (fun h => kt (by first | exact h | simpa using h) H locs ls hP hS hl) (fun h => kf (by first | exact h | simpa using h) H locs ls hP hS hl)
theorem r_if_ge (C : CX D cs ad cc nL own fr lo U κ) {x : Int32} {off : Int} (tgt : Nat) (d : decode cc pc = .ok (.ifCond .ge off, 3)) (ht : (pc : Int) + off = (tgt : Int)) (kt : 0 ≤ x → VV l D cs ad nL κ u M tgt lv st) (kf : ¬ (0 ≤ x) → VV l D cs ad nL κ u M (pc + 3) lv st) : VV l D cs ad nL κ u M pc lv (.int x :: st) := by
  obtain ⟨p, e, R, s, m, args, below, meth, c, c0, s0, Q⟩ := κ
  obtain ⟨hx, hb, hml, hown, hts, hK, hD, hfr, hlo, hc0, hs0⟩ := C
  intro H locs ls hP hS hl
  exact lv_if_ge hx hb d ht (fun h => kt (by first | exact h | simpa using h) H locs ls hP hS hl) (fun h => kf (by first | exact h | simpa using h) H locs ls hP hS hl)
theorem r_if_gt (C : CX D cs ad cc nL own fr lo U κ) {x : Int32} {off : Int} (tgt : Nat) (d : decode cc pc = .ok (.ifCond .gt off, 3)) (ht : (pc : Int) + off = (tgt : Int)) (kt : 0 < x → VV l D cs ad nL κ u M tgt lv st) (kf : ¬ (0 < x) → VV l D cs ad nL κ u M (pc + 3) lv st) : VV l D cs ad nL κ u M pc lv (.int x :: st) := by
  obtain ⟨p, e, R, s, m, args, below, meth, c, c0, s0, Q⟩ := κ
  obtain ⟨hx, hb, hml, hown, hts, hK, hD, hfr, hlo, hc0, hs0⟩ := C
  intro H locs ls hP hS hl
  exact lv_if_gt hx hb d ht (fun h => kt (by first | exact h | simpa using h) H locs ls hP hS hl) (fun h => kf (by first | exact h | simpa using h) H locs ls hP hS hl)
theorem r_if_le (C : CX D cs ad cc nL own fr lo U κ) {x : Int32} {off : Int} (tgt : Nat) (d : decode cc pc = .ok (.ifCond .le off, 3)) (ht : (pc : Int) + off = (tgt : Int)) (kt : x ≤ 0 → VV l D cs ad nL κ u M tgt lv st) (kf : ¬ (x ≤ 0) → VV l D cs ad nL κ u M (pc + 3) lv st) : VV l D cs ad nL κ u M pc lv (.int x :: st) := by
  obtain ⟨p, e, R, s, m, args, below, meth, c, c0, s0, Q⟩ := κ
  obtain ⟨hx, hb, hml, hown, hts, hK, hD, hfr, hlo, hc0, hs0⟩ := C
  intro H locs ls hP hS hl
  exact lv_if_le hx hb d ht (fun h => kt (by first | exact h | simpa using h) H locs ls hP hS hl) (fun h => kf (by first | exact h | simpa using h) H locs ls hP hS hl)
theorem r_icmp_eq (C : CX D cs ad cc nL own fr lo U κ) {x y : Int32} {off : Int} (tgt : Nat) (d : decode cc pc = .ok (.if_icmp .eq off, 3)) (ht : (pc : Int) + off = (tgt : Int)) (kt : x = y → VV l D cs ad nL κ u M tgt lv st) (kf : ¬ (x = y) → VV l D cs ad nL κ u M (pc + 3) lv st) : VV l D cs ad nL κ u M pc lv (.int y :: .int x :: st) := by
  obtain ⟨p, e, R, s, m, args, below, meth, c, c0, s0, Q⟩ := κ
  obtain ⟨hx, hb, hml, hown, hts, hK, hD, hfr, hlo, hc0, hs0⟩ := C
  intro H locs ls hP hS hl
  exact lv_icmp_eq hx hb d ht (fun h => kt (by first | exact h | simpa using h) H locs ls hP hS hl) (fun h => kf (by first | exact h | simpa using h) H locs ls hP hS hl)
theorem r_icmpN_eq (C : CX D cs ad cc nL own fr lo U κ) {a b : Nat} {off : Int} (tgt : Nat) (d : decode cc pc = .ok (.if_icmp .eq off, 3)) (ht : (pc : Int) + off = (tgt : Int)) (ha : a < 2 ^ 31) (hb9 : b < 2 ^ 31) (kt : a = b → VV l D cs ad nL κ u M tgt lv st) (kf : ¬ (a = b) → VV l D cs ad nL κ u M (pc + 3) lv st) : VV l D cs ad nL κ u M pc lv (.int (nI b) :: .int (nI a) :: st) := r_icmp_eq C tgt d ht (fun h => kt ((nI_eq ha hb9).mp h)) (fun h => kf (fun q => h ((nI_eq ha hb9).mpr q)))
theorem r_icmp_ne (C : CX D cs ad cc nL own fr lo U κ) {x y : Int32} {off : Int} (tgt : Nat) (d : decode cc pc = .ok (.if_icmp .ne off, 3)) (ht : (pc : Int) + off = (tgt : Int)) (kt : ¬ x = y → VV l D cs ad nL κ u M tgt lv st) (kf : x = y → VV l D cs ad nL κ u M (pc + 3) lv st) : VV l D cs ad nL κ u M pc lv (.int y :: .int x :: st) := by
  obtain ⟨p, e, R, s, m, args, below, meth, c, c0, s0, Q⟩ := κ
  obtain ⟨hx, hb, hml, hown, hts, hK, hD, hfr, hlo, hc0, hs0⟩ := C
  intro H locs ls hP hS hl
  exact lv_icmp_ne hx hb d ht (fun h => kt (by first | exact h | simpa using h) H locs ls hP hS hl) (fun h => kf (by first | exact h | simpa using h) H locs ls hP hS hl)
theorem r_icmpN_ne (C : CX D cs ad cc nL own fr lo U κ) {a b : Nat} {off : Int} (tgt : Nat) (d : decode cc pc = .ok (.if_icmp .ne off, 3)) (ht : (pc : Int) + off = (tgt : Int)) (ha : a < 2 ^ 31) (hb9 : b < 2 ^ 31) (kt : ¬ a = b → VV l D cs ad nL κ u M tgt lv st) (kf : a = b → VV l D cs ad nL κ u M (pc + 3) lv st) : VV l D cs ad nL κ u M pc lv (.int (nI b) :: .int (nI a) :: st) := r_icmp_ne C tgt d ht (fun h => kt ((not_congr (nI_eq ha hb9)).mp h)) (fun h => kf (((nI_eq ha hb9).mp h)))
theorem r_icmp_lt (C : CX D cs ad cc nL own fr lo U κ) {x y : Int32} {off : Int} (tgt : Nat) (d : decode cc pc = .ok (.if_icmp .lt off, 3)) (ht : (pc : Int) + off = (tgt : Int)) (kt : x < y → VV l D cs ad nL κ u M tgt lv st) (kf : ¬ (x < y) → VV l D cs ad nL κ u M (pc + 3) lv st) : VV l D cs ad nL κ u M pc lv (.int y :: .int x :: st) := by
  obtain ⟨p, e, R, s, m, args, below, meth, c, c0, s0, Q⟩ := κ
  obtain ⟨hx, hb, hml, hown, hts, hK, hD, hfr, hlo, hc0, hs0⟩ := C
  intro H locs ls hP hS hl
  exact lv_icmp_lt hx hb d ht (fun h => kt (by first | exact h | simpa using h) H locs ls hP hS hl) (fun h => kf (by first | exact h | simpa using h) H locs ls hP hS hl)
theorem r_icmpN_lt (C : CX D cs ad cc nL own fr lo U κ) {a b : Nat} {off : Int} (tgt : Nat) (d : decode cc pc = .ok (.if_icmp .lt off, 3)) (ht : (pc : Int) + off = (tgt : Int)) (ha : a < 2 ^ 31) (hb9 : b < 2 ^ 31) (kt : a < b → VV l D cs ad nL κ u M tgt lv st) (kf : ¬ (a < b) → VV l D cs ad nL κ u M (pc + 3) lv st) : VV l D cs ad nL κ u M pc lv (.int (nI b) :: .int (nI a) :: st) := r_icmp_lt C tgt d ht (fun h => kt ((nI_ltI ha hb9).mp h)) (fun h => kf (fun q => h ((nI_ltI ha hb9).mpr q)))
theorem r_icmp_ge (C : CX D cs ad cc nL own fr lo U κ) {x y : Int32} {off : Int} (tgt : Nat) (d : decode cc pc = .ok (.if_icmp .ge off, 3)) (ht : (pc : Int) + off = (tgt : Int)) (kt : y ≤ x → VV l D cs ad nL κ u M tgt lv st) (kf : ¬ (y ≤ x) → VV l D cs ad nL κ u M (pc + 3) lv st) : VV l D cs ad nL κ u M pc lv (.int y :: .int x :: st) := by
  obtain ⟨p, e, R, s, m, args, below, meth, c, c0, s0, Q⟩ := κ
  obtain ⟨hx, hb, hml, hown, hts, hK, hD, hfr, hlo, hc0, hs0⟩ := C
  intro H locs ls hP hS hl
  exact lv_icmp_ge hx hb d ht (fun h => kt (by first | exact h | simpa using h) H locs ls hP hS hl) (fun h => kf (by first | exact h | simpa using h) H locs ls hP hS hl)
theorem r_icmpN_ge (C : CX D cs ad cc nL own fr lo U κ) {a b : Nat} {off : Int} (tgt : Nat) (d : decode cc pc = .ok (.if_icmp .ge off, 3)) (ht : (pc : Int) + off = (tgt : Int)) (ha : a < 2 ^ 31) (hb9 : b < 2 ^ 31) (kt : b ≤ a → VV l D cs ad nL κ u M tgt lv st) (kf : ¬ (b ≤ a) → VV l D cs ad nL κ u M (pc + 3) lv st) : VV l D cs ad nL κ u M pc lv (.int (nI b) :: .int (nI a) :: st) := r_icmp_ge C tgt d ht (fun h => kt ((nI_leI hb9 ha).mp h)) (fun h => kf (fun q => h ((nI_leI hb9 ha).mpr q)))
theorem r_icmp_gt (C : CX D cs ad cc nL own fr lo U κ) {x y : Int32} {off : Int} (tgt : Nat) (d : decode cc pc = .ok (.if_icmp .gt off, 3)) (ht : (pc : Int) + off = (tgt : Int)) (kt : y < x → VV l D cs ad nL κ u M tgt lv st) (kf : ¬ (y < x) → VV l D cs ad nL κ u M (pc + 3) lv st) : VV l D cs ad nL κ u M pc lv (.int y :: .int x :: st) := by
  obtain ⟨p, e, R, s, m, args, below, meth, c, c0, s0, Q⟩ := κ
  obtain ⟨hx, hb, hml, hown, hts, hK, hD, hfr, hlo, hc0, hs0⟩ := C
  intro H locs ls hP hS hl
  exact lv_icmp_gt hx hb d ht (fun h => kt (by first | exact h | simpa using h) H locs ls hP hS hl) (fun h => kf (by first | exact h | simpa using h) H locs ls hP hS hl)
theorem r_icmpN_gt (C : CX D cs ad cc nL own fr lo U κ) {a b : Nat} {off : Int} (tgt : Nat) (d : decode cc pc = .ok (.if_icmp .gt off, 3)) (ht : (pc : Int) + off = (tgt : Int)) (ha : a < 2 ^ 31) (hb9 : b < 2 ^ 31) (kt : b < a → VV l D cs ad nL κ u M tgt lv st) (kf : ¬ (b < a) → VV l D cs ad nL κ u M (pc + 3) lv st) : VV l D cs ad nL κ u M pc lv (.int (nI b) :: .int (nI a) :: st) := r_icmp_gt C tgt d ht (fun h => kt ((nI_ltI hb9 ha).mp h)) (fun h => kf (fun q => h ((nI_ltI hb9 ha).mpr q)))
theorem r_icmp_le (C : CX D cs ad cc nL own fr lo U κ) {x y : Int32} {off : Int} (tgt : Nat) (d : decode cc pc = .ok (.if_icmp .le off, 3)) (ht : (pc : Int) + off = (tgt : Int)) (kt : x ≤ y → VV l D cs ad nL κ u M tgt lv st) (kf : ¬ (x ≤ y) → VV l D cs ad nL κ u M (pc + 3) lv st) : VV l D cs ad nL κ u M pc lv (.int y :: .int x :: st) := by
  obtain ⟨p, e, R, s, m, args, below, meth, c, c0, s0, Q⟩ := κ
  obtain ⟨hx, hb, hml, hown, hts, hK, hD, hfr, hlo, hc0, hs0⟩ := C
  intro H locs ls hP hS hl
  exact lv_icmp_le hx hb d ht (fun h => kt (by first | exact h | simpa using h) H locs ls hP hS hl) (fun h => kf (by first | exact h | simpa using h) H locs ls hP hS hl)
theorem r_icmpN_le (C : CX D cs ad cc nL own fr lo U κ) {a b : Nat} {off : Int} (tgt : Nat) (d : decode cc pc = .ok (.if_icmp .le off, 3)) (ht : (pc : Int) + off = (tgt : Int)) (ha : a < 2 ^ 31) (hb9 : b < 2 ^ 31) (kt : a ≤ b → VV l D cs ad nL κ u M tgt lv st) (kf : ¬ (a ≤ b) → VV l D cs ad nL κ u M (pc + 3) lv st) : VV l D cs ad nL κ u M pc lv (.int (nI b) :: .int (nI a) :: st) := r_icmp_le C tgt d ht (fun h => kt ((nI_leI ha hb9).mp h)) (fun h => kf (fun q => h ((nI_leI ha hb9).mpr q)))
theorem r_ifB_eq (C : CX D cs ad cc nL own fr lo U κ) {b : Bool} {off : Int} (tgt : Nat) (d : decode cc pc = .ok (.ifCond .eq off, 3)) (ht : (pc : Int) + off = (tgt : Int)) (kt : b = false → VV l D cs ad nL κ u M tgt lv st) (kf : b = true → VV l D cs ad nL κ u M (pc + 3) lv st) : VV l D cs ad nL κ u M pc lv (.int (bI b) :: st) := r_if_eq C tgt d ht (fun h => kt (by cases b <;> first | rfl | exact absurd h (by decide))) (fun h => kf (by cases b <;> first | rfl | exact absurd h (by decide)))
theorem r_ifB_ne (C : CX D cs ad cc nL own fr lo U κ) {b : Bool} {off : Int} (tgt : Nat) (d : decode cc pc = .ok (.ifCond .ne off, 3)) (ht : (pc : Int) + off = (tgt : Int)) (kt : b = true → VV l D cs ad nL κ u M tgt lv st) (kf : b = false → VV l D cs ad nL κ u M (pc + 3) lv st) : VV l D cs ad nL κ u M pc lv (.int (bI b) :: st) := r_if_ne C tgt d ht (fun h => kt (by cases b <;> first | rfl | exact absurd h (by decide))) (fun h => kf (by cases b <;> first | rfl | exact absurd h (by decide)))
theorem r_ifN_eq (C : CX D cs ad cc nL own fr lo U κ) {a : Nat} {off : Int} (tgt : Nat) (d : decode cc pc = .ok (.ifCond .eq off, 3)) (ht : (pc : Int) + off = (tgt : Int)) (ha : a < 2 ^ 31) (kt : a = 0 → VV l D cs ad nL κ u M tgt lv st) (kf : ¬ a = 0 → VV l D cs ad nL κ u M (pc + 3) lv st) : VV l D cs ad nL κ u M pc lv (.int (nI a) :: st) := by
  have h0 : nI a = 0 ↔ a = 0 := by rw [← nI_0]; exact nI_eq ha (by decide)
  have h1 : nI a ≤ 0 ↔ a = 0 := by rw [← nI_0, nI_leI ha (by decide)]; omega
  have h2 : 0 < nI a ↔ ¬ a = 0 := by rw [← nI_0, nI_ltI (by decide) ha]; omega
  exact r_if_eq C tgt d ht (fun h => kt (h0.mp h)) (fun h => kf (fun q => h (h0.mpr q)))
theorem r_ifN_ne (C : CX D cs ad cc nL own fr lo U κ) {a : Nat} {off : Int} (tgt : Nat) (d : decode cc pc = .ok (.ifCond .ne off, 3)) (ht : (pc : Int) + off = (tgt : Int)) (ha : a < 2 ^ 31) (kt : ¬ a = 0 → VV l D cs ad nL κ u M tgt lv st) (kf : a = 0 → VV l D cs ad nL κ u M (pc + 3) lv st) : VV l D cs ad nL κ u M pc lv (.int (nI a) :: st) := by
  have h0 : nI a = 0 ↔ a = 0 := by rw [← nI_0]; exact nI_eq ha (by decide)
  have h1 : nI a ≤ 0 ↔ a = 0 := by rw [← nI_0, nI_leI ha (by decide)]; omega
  have h2 : 0 < nI a ↔ ¬ a = 0 := by rw [← nI_0, nI_ltI (by decide) ha]; omega
  exact r_if_ne C tgt d ht (fun h => kt (fun q => h (h0.mpr q))) (fun h => kf (h0.mp h))
theorem r_ifN_le (C : CX D cs ad cc nL own fr lo U κ) {a : Nat} {off : Int} (tgt : Nat) (d : decode cc pc = .ok (.ifCond .le off, 3)) (ht : (pc : Int) + off = (tgt : Int)) (ha : a < 2 ^ 31) (kt : a = 0 → VV l D cs ad nL κ u M tgt lv st) (kf : ¬ a = 0 → VV l D cs ad nL κ u M (pc + 3) lv st) : VV l D cs ad nL κ u M pc lv (.int (nI a) :: st) := by
  have h0 : nI a = 0 ↔ a = 0 := by rw [← nI_0]; exact nI_eq ha (by decide)
  have h1 : nI a ≤ 0 ↔ a = 0 := by rw [← nI_0, nI_leI ha (by decide)]; omega
  have h2 : 0 < nI a ↔ ¬ a = 0 := by rw [← nI_0, nI_ltI (by decide) ha]; omega
  exact r_if_le C tgt d ht (fun h => kt (h1.mp h)) (fun h => kf (fun q => h (h1.mpr q)))
theorem r_ifN_gt (C : CX D cs ad cc nL own fr lo U κ) {a : Nat} {off : Int} (tgt : Nat) (d : decode cc pc = .ok (.ifCond .gt off, 3)) (ht : (pc : Int) + off = (tgt : Int)) (ha : a < 2 ^ 31) (kt : ¬ a = 0 → VV l D cs ad nL κ u M tgt lv st) (kf : a = 0 → VV l D cs ad nL κ u M (pc + 3) lv st) : VV l D cs ad nL κ u M pc lv (.int (nI a) :: st) := by
  have h0 : nI a = 0 ↔ a = 0 := by rw [← nI_0]; exact nI_eq ha (by decide)
  have h1 : nI a ≤ 0 ↔ a = 0 := by rw [← nI_0, nI_leI ha (by decide)]; omega
  have h2 : 0 < nI a ↔ ¬ a = 0 := by rw [← nI_0, nI_ltI (by decide) ha]; omega
  exact r_if_gt C tgt d ht (fun h => kt (h2.mp h)) (fun h => kf (Decidable.not_not.mp (fun q => h (h2.mpr q))))
theorem r_tableIn (C : CX D cs ad cc nL own fr lo U κ) {dflt lo9 hi : Int} {offs : Array Int} {len : Nat} {x : Int32} {off : Int} (tgt : Nat) (d : decode cc pc = .ok (.tableswitch dflt lo9 hi offs, len)) (h1 : ¬ x.toInt < lo9) (h2 : ¬ hi < x.toInt) (ho : offs[(x.toInt - lo9).toNat]? = some off) (ht : (pc : Int) + off = (tgt : Int)) (k : VV l D cs ad nL κ u M tgt lv st) : VV l D cs ad nL κ u M pc lv (.int x :: st) := by
  obtain ⟨p, e, R, s, m, args, below, meth, c, c0, s0, Q⟩ := κ
  obtain ⟨hx, hb, hml, hown, hts, hK, hD, hfr, hlo, hc0, hs0⟩ := C
  intro H locs ls hP hS hl
  exact lv_tableIn hx hb d h1 h2 ho ht (k H locs ls hP hS hl)
theorem r_tableOut (C : CX D cs ad cc nL own fr lo U κ) {dflt lo9 hi : Int} {offs : Array Int} {len : Nat} {x : Int32} (tgt : Nat) (d : decode cc pc = .ok (.tableswitch dflt lo9 hi offs, len)) (h : x.toInt < lo9 ∨ hi < x.toInt) (ht : (pc : Int) + dflt = (tgt : Int)) (k : VV l D cs ad nL κ u M tgt lv st) : VV l D cs ad nL κ u M pc lv (.int x :: st) := by
  obtain ⟨p, e, R, s, m, args, below, meth, c, c0, s0, Q⟩ := κ
  obtain ⟨hx, hb, hml, hown, hts, hK, hD, hfr, hlo, hc0, hs0⟩ := C
  intro H locs ls hP hS hl
  exact lv_tableOut hx hb d h ht (k H locs ls hP hS hl)
theorem r_lookup (C : CX D cs ad cc nL own fr lo U κ) {dflt : Int} {ps : Array (Int × Int)} {len : Nat} {x : Int32} {off : Int} (tgt : Nat) (d : decode cc pc = .ok (.lookupswitch dflt ps, len)) (hp : (ps.toList.zip (ps.toList.drop 1)).all (fun (a, next) => a.1 < next.1) = true) (ho : Op.lookupswitch.offset ps.toList dflt x.toInt = off) (ht : (pc : Int) + off = (tgt : Int)) (k : VV l D cs ad nL κ u M tgt lv st) : VV l D cs ad nL κ u M pc lv (.int x :: st) := by
  obtain ⟨p, e, R, s, m, args, below, meth, c, c0, s0, Q⟩ := κ
  obtain ⟨hx, hb, hml, hown, hts, hK, hD, hfr, hlo, hc0, hs0⟩ := C
  intro H locs ls hP hS hl
  exact lv_lookup hx hb d hp ho ht (k H locs ls hP hS hl)
theorem r_st {st2 : List Value} (h : st = st2) (k : VV l D cs ad nL κ u M pc lv st2) : VV l D cs ad nL κ u M pc lv st := h ▸ k
theorem r_top {v w : Value} (h : v = w) (k : VV l D cs ad nL κ u M pc lv (w :: st)) : VV l D cs ad nL κ u M pc lv (v :: st) := h ▸ k
theorem r_topi {v w : Int32} (h : v = w) (k : VV l D cs ad nL κ u M pc lv (.int w :: st)) : VV l D cs ad nL κ u M pc lv (.int v :: st) := h ▸ k
theorem r_topl {v w : Int64} (h : v = w) (k : VV l D cs ad nL κ u M pc lv (.long w :: st)) : VV l D cs ad nL κ u M pc lv (.long v :: st) := h ▸ k
theorem r_lv {lv2 : List (Nat × Value)} (ks : List Nat) (h : lv_pick lv ks = lv2) (k : VV l D cs ad nL κ u M pc lv2 st) : VV l D cs ad nL κ u M pc lv st := by
  obtain ⟨p, e, R, s, m, args, below, meth, c, c0, s0, Q⟩ := κ
  exact fun H locs ls hP hS hl => k H locs ls hP hS (lv_sub hl ks h)
theorem r_mem {M2 : Mm} (h : M = M2) (k : VV l D cs ad nL κ u M2 pc lv st) : VV l D cs ad nL κ u M pc lv st := h ▸ k
theorem r_nm {st1 : List Value} (k : ∀ M2, M2 = M → VV l D cs ad nL κ u M2 pc lv st1) : VV l D cs ad nL κ u M pc lv st1 := k M rfl
theorem r_get (C : CX D cs ad cc nL own fr lo U κ) {ref Cn : String} {T : u_T} {N ci index id : Nat} (hid : id < 140) (hin : ∀ w ∈ u_ws Cn T N, w ∈ TT) {fs : List Value} (he : wF cs ad id (M.1 id) (M.2 id) = .inr (ci, fs)) (hc : vwCl[ci]? = some (Cn, T, N)) (k9 : Nat) (hk9 : k9 < N) (href : (T k9).1 = ref) (w : Cond.fieldLink own index ref (T k9).2.1 (T k9).2.2.1 ∈ TT) {v : Value} (hv : fs[k9]? = some v) (d : decode cc pc = .ok (.getfield index, 3)) (k : VV l D cs ad nL κ u M (pc + 3) lv (v :: st)) : VV l D cs ad nL κ u M pc lv (.ref (ad id) :: st) := by
  obtain ⟨p, e, R, s, m, args, below, meth, c, c0, s0, Q⟩ := κ
  obtain ⟨hx, hb, hml, hown, hts, hK, hD, hfr, hlo, hc0, hs0⟩ := C
  intro H locs ls hP hS hl
  exact va_get hx hb hts hin hown hK hP id (by rw [wW_get cs ad M hid, he]) hc k9 hk9 (hts _ w) (fun x h9 => by rw [href] at h9; exact h9) hv d (k H locs ls hP hS hl)
theorem r_put (C : CX D cs ad cc nL own fr lo U κ) {ref Cn : String} {T : u_T} {N ci index id : Nat} {M2 : Mm} (hid : id < 140) (hin : ∀ w ∈ u_ws Cn T N, w ∈ TT) {ty0 : Nat → FieldType} (hty : ∀ k, k < N → parseFieldDescriptor (T k).2.2.1 = some (ty0 k)) (hnm : ∀ a, a < N → ∀ b, b < N → a ≠ b → (T a).2.1 ≠ (T b).2.1) {fs : List Value} (he : wF cs ad id (M.1 id) (M.2 id) = .inr (ci, fs)) (hc : vwCl[ci]? = some (Cn, T, N)) (k9 : Nat) (hk9 : k9 < N) (href : (T k9).1 = ref) (w : Cond.fieldLink own index ref (T k9).2.1 (T k9).2.2.1 ∈ TT) (hfin : (T k9).2.2.2 = false) {v : Value} (hn : narrow (ty0 k9) v = v) (hfit : fits (ty0 k9) v = true) (hl9 : k9 < fs.length) (hM : ∀ j, j ≠ id → M2.1 j = M.1 j ∧ M2.2 j = M.2 j) (h2 : wF cs ad id (M2.1 id) (M2.2 id) = .inr (ci, fs.set k9 v)) (d : decode cc pc = .ok (.putfield index, 3)) (k : VV l D cs ad nL κ u M2 (pc + 3) lv st) : VV l D cs ad nL κ u M pc lv (v :: .ref (ad id) :: st) := by
  obtain ⟨p, e, R, s, m, args, below, meth, c, c0, s0, Q⟩ := κ
  obtain ⟨hx, hb, hml, hown, hts, hK, hD, hfr, hlo, hc0, hs0⟩ := C
  intro H locs ls hP hS hl
  refine va_put hx hb hts hin ty0 hty hnm hown hK hP (hD M) hS id (by rw [wW_get cs ad M hid, he]) hc k9 hk9 (hts _ w) (fun x h9 => by rw [href] at h9; exact h9) hfin (hty k9 hk9) hn hfit hl9 d (fun H1 locs1 hP1 hD1 hS1 => ?_)
  rw [wW_set cs ad hid hM h2] at hP1
  exact k H1 locs1 ls hP1 hS1 hl
theorem r_iald (C : CX D cs ad cc nL own fr lo U κ) {id n a : Nat} (hid : id < 140) (he : wF cs ad id (M.1 id) (M.2 id) = .inl (cs 0, n, .inl (M.1 id))) (ha : a < n) (hn : n < 2 ^ 31) (d : decode cc pc = .ok (.iaload, 1)) (k : VV l D cs ad nL κ u M (pc + 1) lv (.int (M.1 id a) :: st)) : VV l D cs ad nL κ u M pc lv (.int (nI a) :: .ref (ad id) :: st) := by
  obtain ⟨p, e, R, s, m, args, below, meth, c, c0, s0, Q⟩ := κ
  obtain ⟨hx, hb, hml, hown, hts, hK, hD, hfr, hlo, hc0, hs0⟩ := C
  intro H locs ls hP hS hl
  refine va_iald hx hb hK hP id 0 (by rw [wW_get cs ad M hid, he]) rfl (vp_in_nI ha hn) d ?_
  rw [nI_clamp (by omega)]
  exact (k H locs ls hP hS hl)
theorem r_cald (C : CX D cs ad cc nL own fr lo U κ) {id n a : Nat} (hid : id < 140) (he : wF cs ad id (M.1 id) (M.2 id) = .inl (cs 1, n, .inl (M.1 id))) (ha : a < n) (hn : n < 2 ^ 31) (d : decode cc pc = .ok (.caload, 1)) (k : VV l D cs ad nL κ u M (pc + 1) lv (.int (M.1 id a) :: st)) : VV l D cs ad nL κ u M pc lv (.int (nI a) :: .ref (ad id) :: st) := by
  obtain ⟨p, e, R, s, m, args, below, meth, c, c0, s0, Q⟩ := κ
  obtain ⟨hx, hb, hml, hown, hts, hK, hD, hfr, hlo, hc0, hs0⟩ := C
  intro H locs ls hP hS hl
  refine va_cald hx hb hK hP id 1 (by rw [wW_get cs ad M hid, he]) rfl (vp_in_nI ha hn) d ?_
  rw [nI_clamp (by omega)]
  exact (k H locs ls hP hS hl)
theorem r_zald (C : CX D cs ad cc nL own fr lo U κ) {id n a : Nat} (hid : id < 140) (he : wF cs ad id (M.1 id) (M.2 id) = .inl (cs 2, n, .inl (M.1 id))) (ha : a < n) (hn : n < 2 ^ 31) (d : decode cc pc = .ok (.baload, 1)) (k : VV l D cs ad nL κ u M (pc + 1) lv (.int (M.1 id a) :: st)) : VV l D cs ad nL κ u M pc lv (.int (nI a) :: .ref (ad id) :: st) := by
  obtain ⟨p, e, R, s, m, args, below, meth, c, c0, s0, Q⟩ := κ
  obtain ⟨hx, hb, hml, hown, hts, hK, hD, hfr, hlo, hc0, hs0⟩ := C
  intro H locs ls hP hS hl
  refine va_zald hx hb hK hP id 2 (by rw [wW_get cs ad M hid, he]) rfl (vp_in_nI ha hn) d ?_
  rw [nI_clamp (by omega)]
  exact (k H locs ls hP hS hl)
theorem r_iast (C : CX D cs ad cc nL own fr lo U κ) {id n a : Nat} {x : Int32} (hid : id < 140) (he2 : ∀ f, wF cs ad id f (M.2 id) = .inl (cs 0, n, .inl f)) (ha : a < n) (hn : n < 2 ^ 31) (d : decode cc pc = .ok (.iastore, 1)) (k : VV l D cs ad nL κ u (mI M id a x) (pc + 1) lv st) : VV l D cs ad nL κ u M pc lv (.int x :: .int (nI a) :: .ref (ad id) :: st) := by
  obtain ⟨p, e, R, s, m, args, below, meth, c, c0, s0, Q⟩ := κ
  obtain ⟨hx, hb, hml, hown, hts, hK, hD, hfr, hlo, hc0, hs0⟩ := C
  intro H locs ls hP hS hl
  refine va_iast hx hb hK hP (hD M) hS id 0 (by rw [wW_get cs ad M hid, he2]) rfl (vp_in_nI ha hn) d (fun H1 locs1 hP1 hD1 hS1 => ?_)
  rw [nI_clamp (by omega), wW_set cs ad (M := M) (M' := mI M id a x) hid (fun j hj => ⟨mI_ne M hj, rfl⟩) (by rw [mI_eq]; exact he2 _)] at hP1
  exact k H1 locs1 ls hP1 hS1 hl
theorem r_cast (C : CX D cs ad cc nL own fr lo U κ) {id n a : Nat} {x : Int32} (hid : id < 140) (he2 : ∀ f, wF cs ad id f (M.2 id) = .inl (cs 1, n, .inl f)) (ha : a < n) (hn : n < 2 ^ 31) (hx9 : vp_nar .char x = x) (d : decode cc pc = .ok (.castore, 1)) (k : VV l D cs ad nL κ u (mI M id a x) (pc + 1) lv st) : VV l D cs ad nL κ u M pc lv (.int x :: .int (nI a) :: .ref (ad id) :: st) := by
  obtain ⟨p, e, R, s, m, args, below, meth, c, c0, s0, Q⟩ := κ
  obtain ⟨hx, hb, hml, hown, hts, hK, hD, hfr, hlo, hc0, hs0⟩ := C
  intro H locs ls hP hS hl
  refine va_cast hx hb hK hP (hD M) hS id 1 (by rw [wW_get cs ad M hid, he2]) rfl (vp_in_nI ha hn) d (fun H1 locs1 hP1 hD1 hS1 => ?_)
  rw [hx9, nI_clamp (by omega), wW_set cs ad (M := M) (M' := mI M id a x) hid (fun j hj => ⟨mI_ne M hj, rfl⟩) (by rw [mI_eq]; exact he2 _)] at hP1
  exact k H1 locs1 ls hP1 hS1 hl
theorem r_zast (C : CX D cs ad cc nL own fr lo U κ) {id n a : Nat} {x : Int32} (hid : id < 140) (he2 : ∀ f, wF cs ad id f (M.2 id) = .inl (cs 2, n, .inl f)) (ha : a < n) (hn : n < 2 ^ 31) (hx9 : vp_nar .boolean x = x) (d : decode cc pc = .ok (.bastore, 1)) (k : VV l D cs ad nL κ u (mI M id a x) (pc + 1) lv st) : VV l D cs ad nL κ u M pc lv (.int x :: .int (nI a) :: .ref (ad id) :: st) := by
  obtain ⟨p, e, R, s, m, args, below, meth, c, c0, s0, Q⟩ := κ
  obtain ⟨hx, hb, hml, hown, hts, hK, hD, hfr, hlo, hc0, hs0⟩ := C
  intro H locs ls hP hS hl
  refine va_zast hx hb hK hP (hD M) hS id 2 (by rw [wW_get cs ad M hid, he2]) rfl (vp_in_nI ha hn) d (fun H1 locs1 hP1 hD1 hS1 => ?_)
  rw [hx9, nI_clamp (by omega), wW_set cs ad (M := M) (M' := mI M id a x) hid (fun j hj => ⟨mI_ne M hj, rfl⟩) (by rw [mI_eq]; exact he2 _)] at hP1
  exact k H1 locs1 ls hP1 hS1 hl
theorem r_aald (C : CX D cs ad cc nL own fr lo U κ) {id n a id2 t0 : Nat} {cA : ClassId} {ty : FieldType} {f : Nat → Option Nat} (hid : id < 140) (he : wF cs ad id (M.1 id) (M.2 id) = .inl (cA, n, .inr (.inr (.inr (.inr f))))) (ht0 : (tyC cs)[t0]? = some (cA, ty)) (hty : ty.isReference = true) (ha : a < n) (hn : n < 2 ^ 31) (hf : f a = some (ad id2)) (d : decode cc pc = .ok (.aaload, 1)) (k : VV l D cs ad nL κ u M (pc + 1) lv (.ref (ad id2) :: st)) : VV l D cs ad nL κ u M pc lv (.int (nI a) :: .ref (ad id) :: st) := by
  obtain ⟨p, e, R, s, m, args, below, meth, c, c0, s0, Q⟩ := κ
  obtain ⟨hx, hb, hml, hown, hts, hK, hD, hfr, hlo, hc0, hs0⟩ := C
  intro H locs ls hP hS hl
  have hlt : (nI a).toNatClampNeg < n := by rw [nI_clamp (by omega)]; exact ha
  have hin := vp_in_nI ha hn
  have hcell := hP id _ (by rw [wW_get cs ad M hid, he])
  refine W.aald (v := va_rf (f (nI a).toNatClampNeg)) (ty := ty) hx hb hcell ((hK.2 t0 _ ht0).1 n (fun j => va_rf (f j))) hty (fun q => by cases q) (by show ¬ (nI a < 0 ∨ (arrV _ _ _).slots.size ≤ _); rw [arrV_size]; exact hin) (by show (arrV _ _ _).slots[_]? = _; rw [arrV_read _ _ hlt]) rfl rfl d ?_
  rw [nI_clamp (by omega), hf]
  exact (k H locs ls hP hS hl)
theorem r_copyi (C : CX D cs ad cc nL own fr lo U κ) {index id0 id1 n0 n1 a b n : Nat} (hid0 : id0 < 140) (hid1 : id1 < 140) (he0 : wF cs ad id0 (M.1 id0) (M.2 id0) = .inl (cs 0, n0, .inl (M.1 id0))) (he1 : ∀ f, wF cs ad id1 f (M.2 id1) = .inl (cs 0, n1, .inl f)) (h0 : a + n ≤ n0) (h1 : b + n ≤ n1) (hn0 : n0 < 2 ^ 31) (hn1 : n1 < 2 ^ 31) (w1 : Cond.methodLink own index arraycopyName ∈ TT) (w2 : Cond.native arraycopyName ∈ TT) (w3 : Cond.static arraycopyName ∈ TT) (w4 : Cond.initialized "java/lang/System" ∈ TT) (hfr1 : 1 ≤ fr) (hlo1 : (st.map fun v => v.category).sum + (nativeFrameWords "java/lang/System" "arraycopy" 5 + 11) ≤ lo) (d : decode cc pc = .ok (.invokestatic index, 3)) (k : VV l D cs ad nL κ u (mA M id1 (va_cpy (M.1 id0) (M.1 id1) a b n)) (pc + 3) lv st) : VV l D cs ad nL κ u M pc lv (.int (nI n) :: .int (nI b) :: .ref (ad id1) :: .int (nI a) :: .ref (ad id0) :: st) := by
  obtain ⟨p, e, R, s, m, args, below, meth, c, c0, s0, Q⟩ := κ
  obtain ⟨hx, hb, hml, hown, hts, hK, hD, hfr, hlo, hc0, hs0⟩ := C
  intro H locs ls hP hS hl
  have ea : (nI a).toNatClampNeg = a := nI_clamp (by omega)
  have eb : (nI b).toNatClampNeg = b := nI_clamp (by omega)
  have en : (nI n).toNatClampNeg = n := nI_clamp (by omega)
  refine va_copyi hx hb (hml.trans hl.1.symm) hown (hts _ w1) (hts _ w2) (hts _ w3) (hts _ w4) hK hP (hD M) hS id0 id1 0 0 (by rw [wW_get cs ad M hid0, he0]) (by rw [wW_get cs ad M hid1, he1]) rfl rfl rfl (nI_pos (by omega)) (nI_pos (by omega)) (nI_pos (by omega)) (by rw [ea, en]; exact h0) (by rw [eb, en]; exact h1) (fun _ _ => rfl) (by rw [hfr]; exact hfr1) (by rw [hlo]; exact hlo1) d (fun H1 locs1 hP1 hD1 hS1 => ?_)
  rw [ea, eb, en, wW_set cs ad (M := M) (M' := mA M id1 (va_cpy (M.1 id0) (M.1 id1) a b n)) hid1 (fun j hj => ⟨mA_ne M hj, rfl⟩) (by rw [mA_eq]; exact he1 _)] at hP1
  exact k H1 locs1 ls hP1 hS1 hl
theorem r_mmax (C : CX D cs ad cc nL own fr lo U κ) (hu : u ≤ U) {x y : Int32} {index : Nat} (w1 : Cond.methodLink own index Lib.Math.max.name ∈ TT) (w2 : Cond.static Lib.Math.max.name ∈ TT) (w3 : Cond.initialized "java/lang/Math" ∈ TT) (w4 : Cond.code Lib.Math.max.name Lib.Math.max.code 2 (some .int) ∈ TT) (hfr1 : 1 ≤ fr) (hlo1 : (st.map fun v => v.category).sum + 13 ≤ lo) (d : decode cc pc = .ok (.invokestatic index, 3)) (k : VV l D cs ad nL κ u M (pc + 3) lv (.int (if x < y then y else x) :: st)) : VV l D cs ad nL κ u M pc lv (.int y :: .int x :: st) := by
  obtain ⟨p, e, R, s, m, args, below, meth, c, c0, s0, Q⟩ := κ
  obtain ⟨hx, hb, hml, hown, hts, hK, hD, hfr, hlo, hc0, hs0⟩ := C
  intro H locs ls hP hS hl
  exact va_mmax hx hb (hml.trans hl.1.symm) hown (hts _ w1) (hts _ w2) (hts _ w3) (hts _ w4) (by rw [hfr]; exact hfr1) (by rw [hlo]; exact hlo1) (by omega) (by omega) d (k H locs ls hP hS hl)
theorem r_mmin (C : CX D cs ad cc nL own fr lo U κ) (hu : u ≤ U) {x y : Int32} {index : Nat} (w1 : Cond.methodLink own index Lib.Math.min.name ∈ TT) (w2 : Cond.static Lib.Math.min.name ∈ TT) (w3 : Cond.initialized "java/lang/Math" ∈ TT) (w4 : Cond.code Lib.Math.min.name Lib.Math.min.code 2 (some .int) ∈ TT) (hfr1 : 1 ≤ fr) (hlo1 : (st.map fun v => v.category).sum + 13 ≤ lo) (d : decode cc pc = .ok (.invokestatic index, 3)) (k : VV l D cs ad nL κ u M (pc + 3) lv (.int (if y < x then y else x) :: st)) : VV l D cs ad nL κ u M pc lv (.int y :: .int x :: st) := by
  obtain ⟨p, e, R, s, m, args, below, meth, c, c0, s0, Q⟩ := κ
  obtain ⟨hx, hb, hml, hown, hts, hK, hD, hfr, hlo, hc0, hs0⟩ := C
  intro H locs ls hP hS hl
  exact va_mmin hx hb (hml.trans hl.1.symm) hown (hts _ w1) (hts _ w2) (hts _ w3) (hts _ w4) (by rw [hfr]; exact hfr1) (by rw [hlo]; exact hlo1) (by omega) (by omega) d (k H locs ls hP hS hl)
theorem r_mabs (C : CX D cs ad cc nL own fr lo U κ) (hu : u ≤ U) {x : Int32} {index : Nat} (w1 : Cond.methodLink own index Lib.Math.abs.name ∈ TT) (w2 : Cond.static Lib.Math.abs.name ∈ TT) (w3 : Cond.initialized "java/lang/Math" ∈ TT) (w4 : Cond.code Lib.Math.abs.name Lib.Math.abs.code 1 (some .int) ∈ TT) (hfr1 : 1 ≤ fr) (hlo1 : (st.map fun v => v.category).sum + 13 ≤ lo) (d : decode cc pc = .ok (.invokestatic index, 3)) (k : VV l D cs ad nL κ u M (pc + 3) lv (.int (if 0 ≤ x then x else 0 - x) :: st)) : VV l D cs ad nL κ u M pc lv (.int x :: st) := by
  obtain ⟨p, e, R, s, m, args, below, meth, c, c0, s0, Q⟩ := κ
  obtain ⟨hx, hb, hml, hown, hts, hK, hD, hfr, hlo, hc0, hs0⟩ := C
  intro H locs ls hP hS hl
  exact va_mabs hx hb (hml.trans hl.1.symm) hown (hts _ w1) (hts _ w2) (hts _ w3) (hts _ w4) (by rw [hfr]; exact hfr1) (by rw [hlo]; exact hlo1) (by omega) (by omega) d (k H locs ls hP hS hl)
theorem fA_mono {sz sz2 q : Nat} (h : sz ≤ sz2) (hq : fA ad sz2 q) : fA ad sz q := hq.elim Or.inl (fun w => Or.inr (Nat.le_trans h w))
theorem fb_B {As : List Value} {sz : Nat} : FrameBlind (va_Pc As (fun U9 => U9.heap.size = sz ∧ wB D cs ad (fA ad sz) M U9)) := fun a U g mk q => by
  obtain ⟨q0, q1, qP, qK, qD⟩ := q
  exact ⟨q0, q1, qP, va_K.moved (u := U) (U := U.calling g mk a) (Vm.Alike.refl U.vm) qK, qD⟩
theorem pr_B {s : State} {H : Heap} {As : List Value} (hK : va_K D vwCl (tyC cs) s) (hP : va_P D vwCl (wW cs ad M) H) (hD : va_D (fA ad s.heap.size) (wW cs ad M)) : ∀ U9 : State, U9.heap = H → s.WarmedH U9.vm → va_Pc As (fun U9 => U9.heap.size = H.size ∧ wB D cs ad (fA ad H.size) M U9) As.toArray U9 :=
  fun U9 hU hW => ⟨rfl, by rw [hU], by rw [hU]; exact hP, va_K.moved hW.alike hK, wD_any (fun i hi => fA_in hi) hD M⟩
theorem r_callS_i (C : CX D cs ad cc nL own fr lo U κ) (hu : u ≤ U) {y : MethodName} {b : ByteArray} {n nA idx : Nat} {rt : Option FieldType} {rm : Room} {rest : List Value} {post : Int32 → Mm → Prop} (As9 : List Value) (hM : ∀ sz, Met l y (.code y b n rt :: TT) rm (va_Pc As9 (fun U9 => U9.heap.size = sz ∧ wB D cs ad (fA ad sz) M U9)) (va_Qi post (wB D cs ad (fA ad sz)) (fA ad sz)) 0 0 (fA ad sz)) (hG : GoodIn TT (wsS own idx y (.code y b n rt :: TT))) (hrm : rm.cells = 0 ∧ rm.slots = 0) (hyd : y.cls = own ∧ y.cls ≠ "java/lang/invoke/MethodHandle" ∧ y.cls ≠ "java/lang/invoke/VarHandle" ∧ (parseMethodDescriptor y.desc).map (fun d => d.parameters.length) = some nA) (hR : rm.frames + 1 ≤ fr ∧ 8 + (n + 11) + rm.locals ≤ lo) (hn : As9.length = nA) (hst : st = As9.reverse ++ rest) (hW8 : (rest.map fun v => v.category).sum ≤ 8) (d : decode cc pc = .ok (.invokestatic idx, 3)) (k : ∀ (r : Int32) (M2 : Mm), post r M2 → VV l D cs ad nL κ u M2 (pc + 3) lv (.int r :: rest)) : VV l D cs ad nL κ u M pc lv st := by
  obtain ⟨p, e, R, s, m, args, below, meth, c, c0, s0, Q⟩ := κ
  obtain ⟨hx, hb, hml, hown, hts, hK, hD, hfr, hlo, hc0, hs0⟩ := C
  intro H locs ls hP hS hl
  subst hst
  refine va_calli (va_runS (As := As9) (rest := rest) ⟨hx, hb, hml, hown, hts⟩ (hM H.size) (cwS nA hts hG rfl hrm.1 hrm.2 hyd ⟨by rw [hfr]; exact hR.1, by rw [hlo]; exact hR.2⟩) ⟨fb_B, pr_B hK hP (hD M)⟩ rfl hn hl.1 rfl (lv_room hW8) d ⟨by omega, by omega⟩) hS (fun q _ h => fA_mono hS.1 h) (fun q h => fA_mono hS.1 h) (fun r M2 t H1 locs1 ht hvm hw hB hz1 hk1 hS1 => ?_)
  exact k r M2 hw H1 locs1 ls (by rw [← ht]; exact hB.1) hS1 hl
theorem r_callS2_i (C : CX D cs ad cc nL own fr lo U κ) (hu : u ≤ U) {y : MethodName} {b : ByteArray} {n nA idx : Nat} {rt : Option FieldType} {rm : Room} {rest : List Value} {post : Int32 → Mm → Prop} (As9 : List Value) (hM : ∀ sz, Met l y (.code y b n rt :: TT) rm (va_Pc As9 (fun U9 => U9.heap.size = sz ∧ wB D cs ad (fA ad sz) M U9)) (va_Qi post (wB D cs ad (fA ad sz)) (fA ad sz)) 0 0 (fA ad sz)) (hG : GoodIn TT (va_wsS own idx y (.code y b n rt :: TT))) (hrm : rm.cells = 0 ∧ rm.slots = 0) (hyd : y.cls ≠ "java/lang/invoke/MethodHandle" ∧ y.cls ≠ "java/lang/invoke/VarHandle" ∧ (parseMethodDescriptor y.desc).map (fun d => d.parameters.length) = some nA) (hR : rm.frames + 1 ≤ fr ∧ 8 + (n + 11) + rm.locals ≤ lo) (hn : As9.length = nA) (hst : st = As9.reverse ++ rest) (hW8 : (rest.map fun v => v.category).sum ≤ 8) (d : decode cc pc = .ok (.invokestatic idx, 3)) (k : ∀ (r : Int32) (M2 : Mm), post r M2 → VV l D cs ad nL κ u M2 (pc + 3) lv (.int r :: rest)) : VV l D cs ad nL κ u M pc lv st := by
  obtain ⟨p, e, R, s, m, args, below, meth, c, c0, s0, Q⟩ := κ
  obtain ⟨hx, hb, hml, hown, hts, hK, hD, hfr, hlo, hc0, hs0⟩ := C
  intro H locs ls hP hS hl
  subst hst
  refine va_calli (va_runS (As := As9) (rest := rest) ⟨hx, hb, hml, hown, hts⟩ (hM H.size) (va_cwS nA hts hG rfl hrm.1 hrm.2 hyd ⟨by rw [hfr]; exact hR.1, by rw [hlo]; exact hR.2⟩) ⟨fb_B, pr_B hK hP (hD M)⟩ rfl hn hl.1 rfl (lv_room hW8) d ⟨by omega, by omega⟩) hS (fun q _ h => fA_mono hS.1 h) (fun q h => fA_mono hS.1 h) (fun r M2 t H1 locs1 ht hvm hw hB hz1 hk1 hS1 => ?_)
  exact k r M2 hw H1 locs1 ls (by rw [← ht]; exact hB.1) hS1 hl
theorem r_callV_i (C : CX D cs ad cc nL own fr lo U κ) (hu : u ≤ U) {y : MethodName} {b : ByteArray} {n nA idx : Nat} {rt : Option FieldType} {rm : Room} {rest : List Value} {Cn : String} {ci id : Nat} {q9 : vw_C} {fs : List Value} {post : Int32 → Mm → Prop} (As9 : List Value) (hM : ∀ sz, Met l y (.code y b n rt :: TT) rm (va_Pc (.ref (ad id) :: As9) (fun U9 => U9.heap.size = sz ∧ wB D cs ad (fA ad sz) M U9)) (va_Qi post (wB D cs ad (fA ad sz)) (fA ad sz)) 0 0 (fA ad sz)) (hG : GoodIn TT (wsV own idx Cn y (.code y b n rt :: TT))) (hrm : rm.cells = 0 ∧ rm.slots = 0) (hyd : y.cls = Cn ∧ y.cls ≠ "java/lang/invoke/MethodHandle" ∧ y.cls ≠ "java/lang/invoke/VarHandle" ∧ (parseMethodDescriptor y.desc).map (fun d => d.parameters.length) = some nA) (hR : rm.frames + 1 ≤ fr ∧ 8 + (n + 11) + rm.locals ≤ lo) (hid : id < 140) (he : wF cs ad id (M.1 id) (M.2 id) = .inr (ci, fs)) (hc : vwCl[ci]? = some q9) (hq9 : q9.1 = Cn) (hn : As9.length = nA) (hst : st = As9.reverse ++ .ref (ad id) :: rest) (hW8 : (rest.map fun v => v.category).sum ≤ 8) (d : decode cc pc = .ok (.invokevirtual idx, 3)) (k : ∀ (r : Int32) (M2 : Mm), post r M2 → VV l D cs ad nL κ u M2 (pc + 3) lv (.int r :: rest)) : VV l D cs ad nL κ u M pc lv st := by
  obtain ⟨p, e, R, s, m, args, below, meth, c, c0, s0, Q⟩ := κ
  obtain ⟨hx, hb, hml, hown, hts, hK, hD, hfr, hlo, hc0, hs0⟩ := C
  intro H locs ls hP hS hl
  subst hst
  refine va_calli (va_runV (As := As9) (rest := rest) ⟨hx, hb, hml, hown, hts⟩ (hM H.size) (cwV nA hts hG rfl hrm.1 hrm.2 hyd ⟨by rw [hfr]; exact hR.1, by rw [hlo]; exact hR.2⟩) ⟨fb_B, ?_, pr_B hK hP (hD M)⟩ rfl hn hl.1 rfl (lv_room hW8) d ⟨by omega, by omega⟩) hS (fun q _ h => fA_mono hS.1 h) (fun q h => fA_mono hS.1 h) (fun r M2 t H1 locs1 ht hvm hw hB hz1 hk1 hS1 => ?_)
  · have h9 := va_recv hK hP hc (show (wW cs ad M)[id]? = _ by rw [wW_get cs ad M hid, he])
    rw [hq9] at h9
    exact h9
  · exact k r M2 hw H1 locs1 ls (by rw [← ht]; exact hB.1) hS1 hl
theorem r_callS_l (C : CX D cs ad cc nL own fr lo U κ) (hu : u ≤ U) {y : MethodName} {b : ByteArray} {n nA idx : Nat} {rt : Option FieldType} {rm : Room} {rest : List Value} {post : Int64 → Mm → Prop} (As9 : List Value) (hM : ∀ sz, Met l y (.code y b n rt :: TT) rm (va_Pc As9 (fun U9 => U9.heap.size = sz ∧ wB D cs ad (fA ad sz) M U9)) (va_Ql post (wB D cs ad (fA ad sz)) (fA ad sz)) 0 0 (fA ad sz)) (hG : GoodIn TT (wsS own idx y (.code y b n rt :: TT))) (hrm : rm.cells = 0 ∧ rm.slots = 0) (hyd : y.cls = own ∧ y.cls ≠ "java/lang/invoke/MethodHandle" ∧ y.cls ≠ "java/lang/invoke/VarHandle" ∧ (parseMethodDescriptor y.desc).map (fun d => d.parameters.length) = some nA) (hR : rm.frames + 1 ≤ fr ∧ 8 + (n + 11) + rm.locals ≤ lo) (hn : As9.length = nA) (hst : st = As9.reverse ++ rest) (hW8 : (rest.map fun v => v.category).sum ≤ 8) (d : decode cc pc = .ok (.invokestatic idx, 3)) (k : ∀ (r : Int64) (M2 : Mm), post r M2 → VV l D cs ad nL κ u M2 (pc + 3) lv (.long r :: rest)) : VV l D cs ad nL κ u M pc lv st := by
  obtain ⟨p, e, R, s, m, args, below, meth, c, c0, s0, Q⟩ := κ
  obtain ⟨hx, hb, hml, hown, hts, hK, hD, hfr, hlo, hc0, hs0⟩ := C
  intro H locs ls hP hS hl
  subst hst
  refine va_calll (va_runS (As := As9) (rest := rest) ⟨hx, hb, hml, hown, hts⟩ (hM H.size) (cwS nA hts hG rfl hrm.1 hrm.2 hyd ⟨by rw [hfr]; exact hR.1, by rw [hlo]; exact hR.2⟩) ⟨fb_B, pr_B hK hP (hD M)⟩ rfl hn hl.1 rfl (lv_room hW8) d ⟨by omega, by omega⟩) hS (fun q _ h => fA_mono hS.1 h) (fun q h => fA_mono hS.1 h) (fun r M2 t H1 locs1 ht hvm hw hB hz1 hk1 hS1 => ?_)
  exact k r M2 hw H1 locs1 ls (by rw [← ht]; exact hB.1) hS1 hl
theorem r_callS2_l (C : CX D cs ad cc nL own fr lo U κ) (hu : u ≤ U) {y : MethodName} {b : ByteArray} {n nA idx : Nat} {rt : Option FieldType} {rm : Room} {rest : List Value} {post : Int64 → Mm → Prop} (As9 : List Value) (hM : ∀ sz, Met l y (.code y b n rt :: TT) rm (va_Pc As9 (fun U9 => U9.heap.size = sz ∧ wB D cs ad (fA ad sz) M U9)) (va_Ql post (wB D cs ad (fA ad sz)) (fA ad sz)) 0 0 (fA ad sz)) (hG : GoodIn TT (va_wsS own idx y (.code y b n rt :: TT))) (hrm : rm.cells = 0 ∧ rm.slots = 0) (hyd : y.cls ≠ "java/lang/invoke/MethodHandle" ∧ y.cls ≠ "java/lang/invoke/VarHandle" ∧ (parseMethodDescriptor y.desc).map (fun d => d.parameters.length) = some nA) (hR : rm.frames + 1 ≤ fr ∧ 8 + (n + 11) + rm.locals ≤ lo) (hn : As9.length = nA) (hst : st = As9.reverse ++ rest) (hW8 : (rest.map fun v => v.category).sum ≤ 8) (d : decode cc pc = .ok (.invokestatic idx, 3)) (k : ∀ (r : Int64) (M2 : Mm), post r M2 → VV l D cs ad nL κ u M2 (pc + 3) lv (.long r :: rest)) : VV l D cs ad nL κ u M pc lv st := by
  obtain ⟨p, e, R, s, m, args, below, meth, c, c0, s0, Q⟩ := κ
  obtain ⟨hx, hb, hml, hown, hts, hK, hD, hfr, hlo, hc0, hs0⟩ := C
  intro H locs ls hP hS hl
  subst hst
  refine va_calll (va_runS (As := As9) (rest := rest) ⟨hx, hb, hml, hown, hts⟩ (hM H.size) (va_cwS nA hts hG rfl hrm.1 hrm.2 hyd ⟨by rw [hfr]; exact hR.1, by rw [hlo]; exact hR.2⟩) ⟨fb_B, pr_B hK hP (hD M)⟩ rfl hn hl.1 rfl (lv_room hW8) d ⟨by omega, by omega⟩) hS (fun q _ h => fA_mono hS.1 h) (fun q h => fA_mono hS.1 h) (fun r M2 t H1 locs1 ht hvm hw hB hz1 hk1 hS1 => ?_)
  exact k r M2 hw H1 locs1 ls (by rw [← ht]; exact hB.1) hS1 hl
theorem r_callV_l (C : CX D cs ad cc nL own fr lo U κ) (hu : u ≤ U) {y : MethodName} {b : ByteArray} {n nA idx : Nat} {rt : Option FieldType} {rm : Room} {rest : List Value} {Cn : String} {ci id : Nat} {q9 : vw_C} {fs : List Value} {post : Int64 → Mm → Prop} (As9 : List Value) (hM : ∀ sz, Met l y (.code y b n rt :: TT) rm (va_Pc (.ref (ad id) :: As9) (fun U9 => U9.heap.size = sz ∧ wB D cs ad (fA ad sz) M U9)) (va_Ql post (wB D cs ad (fA ad sz)) (fA ad sz)) 0 0 (fA ad sz)) (hG : GoodIn TT (wsV own idx Cn y (.code y b n rt :: TT))) (hrm : rm.cells = 0 ∧ rm.slots = 0) (hyd : y.cls = Cn ∧ y.cls ≠ "java/lang/invoke/MethodHandle" ∧ y.cls ≠ "java/lang/invoke/VarHandle" ∧ (parseMethodDescriptor y.desc).map (fun d => d.parameters.length) = some nA) (hR : rm.frames + 1 ≤ fr ∧ 8 + (n + 11) + rm.locals ≤ lo) (hid : id < 140) (he : wF cs ad id (M.1 id) (M.2 id) = .inr (ci, fs)) (hc : vwCl[ci]? = some q9) (hq9 : q9.1 = Cn) (hn : As9.length = nA) (hst : st = As9.reverse ++ .ref (ad id) :: rest) (hW8 : (rest.map fun v => v.category).sum ≤ 8) (d : decode cc pc = .ok (.invokevirtual idx, 3)) (k : ∀ (r : Int64) (M2 : Mm), post r M2 → VV l D cs ad nL κ u M2 (pc + 3) lv (.long r :: rest)) : VV l D cs ad nL κ u M pc lv st := by
  obtain ⟨p, e, R, s, m, args, below, meth, c, c0, s0, Q⟩ := κ
  obtain ⟨hx, hb, hml, hown, hts, hK, hD, hfr, hlo, hc0, hs0⟩ := C
  intro H locs ls hP hS hl
  subst hst
  refine va_calll (va_runV (As := As9) (rest := rest) ⟨hx, hb, hml, hown, hts⟩ (hM H.size) (cwV nA hts hG rfl hrm.1 hrm.2 hyd ⟨by rw [hfr]; exact hR.1, by rw [hlo]; exact hR.2⟩) ⟨fb_B, ?_, pr_B hK hP (hD M)⟩ rfl hn hl.1 rfl (lv_room hW8) d ⟨by omega, by omega⟩) hS (fun q _ h => fA_mono hS.1 h) (fun q h => fA_mono hS.1 h) (fun r M2 t H1 locs1 ht hvm hw hB hz1 hk1 hS1 => ?_)
  · have h9 := va_recv hK hP hc (show (wW cs ad M)[id]? = _ by rw [wW_get cs ad M hid, he])
    rw [hq9] at h9
    exact h9
  · exact k r M2 hw H1 locs1 ls (by rw [← ht]; exact hB.1) hS1 hl
theorem r_callS_d (C : CX D cs ad cc nL own fr lo U κ) (hu : u ≤ U) {y : MethodName} {b : ByteArray} {n nA idx : Nat} {rt : Option FieldType} {rm : Room} {rest : List Value} {post : UInt64 → Mm → Prop} (As9 : List Value) (hM : ∀ sz, Met l y (.code y b n rt :: TT) rm (va_Pc As9 (fun U9 => U9.heap.size = sz ∧ wB D cs ad (fA ad sz) M U9)) (va_Qd post (wB D cs ad (fA ad sz)) (fA ad sz)) 0 0 (fA ad sz)) (hG : GoodIn TT (wsS own idx y (.code y b n rt :: TT))) (hrm : rm.cells = 0 ∧ rm.slots = 0) (hyd : y.cls = own ∧ y.cls ≠ "java/lang/invoke/MethodHandle" ∧ y.cls ≠ "java/lang/invoke/VarHandle" ∧ (parseMethodDescriptor y.desc).map (fun d => d.parameters.length) = some nA) (hR : rm.frames + 1 ≤ fr ∧ 8 + (n + 11) + rm.locals ≤ lo) (hn : As9.length = nA) (hst : st = As9.reverse ++ rest) (hW8 : (rest.map fun v => v.category).sum ≤ 8) (d : decode cc pc = .ok (.invokestatic idx, 3)) (k : ∀ (r : UInt64) (M2 : Mm), post r M2 → VV l D cs ad nL κ u M2 (pc + 3) lv (.double r :: rest)) : VV l D cs ad nL κ u M pc lv st := by
  obtain ⟨p, e, R, s, m, args, below, meth, c, c0, s0, Q⟩ := κ
  obtain ⟨hx, hb, hml, hown, hts, hK, hD, hfr, hlo, hc0, hs0⟩ := C
  intro H locs ls hP hS hl
  subst hst
  refine va_calld (va_runS (As := As9) (rest := rest) ⟨hx, hb, hml, hown, hts⟩ (hM H.size) (cwS nA hts hG rfl hrm.1 hrm.2 hyd ⟨by rw [hfr]; exact hR.1, by rw [hlo]; exact hR.2⟩) ⟨fb_B, pr_B hK hP (hD M)⟩ rfl hn hl.1 rfl (lv_room hW8) d ⟨by omega, by omega⟩) hS (fun q _ h => fA_mono hS.1 h) (fun q h => fA_mono hS.1 h) (fun r M2 t H1 locs1 ht hvm hw hB hz1 hk1 hS1 => ?_)
  exact k r M2 hw H1 locs1 ls (by rw [← ht]; exact hB.1) hS1 hl
theorem r_callS2_d (C : CX D cs ad cc nL own fr lo U κ) (hu : u ≤ U) {y : MethodName} {b : ByteArray} {n nA idx : Nat} {rt : Option FieldType} {rm : Room} {rest : List Value} {post : UInt64 → Mm → Prop} (As9 : List Value) (hM : ∀ sz, Met l y (.code y b n rt :: TT) rm (va_Pc As9 (fun U9 => U9.heap.size = sz ∧ wB D cs ad (fA ad sz) M U9)) (va_Qd post (wB D cs ad (fA ad sz)) (fA ad sz)) 0 0 (fA ad sz)) (hG : GoodIn TT (va_wsS own idx y (.code y b n rt :: TT))) (hrm : rm.cells = 0 ∧ rm.slots = 0) (hyd : y.cls ≠ "java/lang/invoke/MethodHandle" ∧ y.cls ≠ "java/lang/invoke/VarHandle" ∧ (parseMethodDescriptor y.desc).map (fun d => d.parameters.length) = some nA) (hR : rm.frames + 1 ≤ fr ∧ 8 + (n + 11) + rm.locals ≤ lo) (hn : As9.length = nA) (hst : st = As9.reverse ++ rest) (hW8 : (rest.map fun v => v.category).sum ≤ 8) (d : decode cc pc = .ok (.invokestatic idx, 3)) (k : ∀ (r : UInt64) (M2 : Mm), post r M2 → VV l D cs ad nL κ u M2 (pc + 3) lv (.double r :: rest)) : VV l D cs ad nL κ u M pc lv st := by
  obtain ⟨p, e, R, s, m, args, below, meth, c, c0, s0, Q⟩ := κ
  obtain ⟨hx, hb, hml, hown, hts, hK, hD, hfr, hlo, hc0, hs0⟩ := C
  intro H locs ls hP hS hl
  subst hst
  refine va_calld (va_runS (As := As9) (rest := rest) ⟨hx, hb, hml, hown, hts⟩ (hM H.size) (va_cwS nA hts hG rfl hrm.1 hrm.2 hyd ⟨by rw [hfr]; exact hR.1, by rw [hlo]; exact hR.2⟩) ⟨fb_B, pr_B hK hP (hD M)⟩ rfl hn hl.1 rfl (lv_room hW8) d ⟨by omega, by omega⟩) hS (fun q _ h => fA_mono hS.1 h) (fun q h => fA_mono hS.1 h) (fun r M2 t H1 locs1 ht hvm hw hB hz1 hk1 hS1 => ?_)
  exact k r M2 hw H1 locs1 ls (by rw [← ht]; exact hB.1) hS1 hl
theorem r_callV_d (C : CX D cs ad cc nL own fr lo U κ) (hu : u ≤ U) {y : MethodName} {b : ByteArray} {n nA idx : Nat} {rt : Option FieldType} {rm : Room} {rest : List Value} {Cn : String} {ci id : Nat} {q9 : vw_C} {fs : List Value} {post : UInt64 → Mm → Prop} (As9 : List Value) (hM : ∀ sz, Met l y (.code y b n rt :: TT) rm (va_Pc (.ref (ad id) :: As9) (fun U9 => U9.heap.size = sz ∧ wB D cs ad (fA ad sz) M U9)) (va_Qd post (wB D cs ad (fA ad sz)) (fA ad sz)) 0 0 (fA ad sz)) (hG : GoodIn TT (wsV own idx Cn y (.code y b n rt :: TT))) (hrm : rm.cells = 0 ∧ rm.slots = 0) (hyd : y.cls = Cn ∧ y.cls ≠ "java/lang/invoke/MethodHandle" ∧ y.cls ≠ "java/lang/invoke/VarHandle" ∧ (parseMethodDescriptor y.desc).map (fun d => d.parameters.length) = some nA) (hR : rm.frames + 1 ≤ fr ∧ 8 + (n + 11) + rm.locals ≤ lo) (hid : id < 140) (he : wF cs ad id (M.1 id) (M.2 id) = .inr (ci, fs)) (hc : vwCl[ci]? = some q9) (hq9 : q9.1 = Cn) (hn : As9.length = nA) (hst : st = As9.reverse ++ .ref (ad id) :: rest) (hW8 : (rest.map fun v => v.category).sum ≤ 8) (d : decode cc pc = .ok (.invokevirtual idx, 3)) (k : ∀ (r : UInt64) (M2 : Mm), post r M2 → VV l D cs ad nL κ u M2 (pc + 3) lv (.double r :: rest)) : VV l D cs ad nL κ u M pc lv st := by
  obtain ⟨p, e, R, s, m, args, below, meth, c, c0, s0, Q⟩ := κ
  obtain ⟨hx, hb, hml, hown, hts, hK, hD, hfr, hlo, hc0, hs0⟩ := C
  intro H locs ls hP hS hl
  subst hst
  refine va_calld (va_runV (As := As9) (rest := rest) ⟨hx, hb, hml, hown, hts⟩ (hM H.size) (cwV nA hts hG rfl hrm.1 hrm.2 hyd ⟨by rw [hfr]; exact hR.1, by rw [hlo]; exact hR.2⟩) ⟨fb_B, ?_, pr_B hK hP (hD M)⟩ rfl hn hl.1 rfl (lv_room hW8) d ⟨by omega, by omega⟩) hS (fun q _ h => fA_mono hS.1 h) (fun q h => fA_mono hS.1 h) (fun r M2 t H1 locs1 ht hvm hw hB hz1 hk1 hS1 => ?_)
  · have h9 := va_recv hK hP hc (show (wW cs ad M)[id]? = _ by rw [wW_get cs ad M hid, he])
    rw [hq9] at h9
    exact h9
  · exact k r M2 hw H1 locs1 ls (by rw [← ht]; exact hB.1) hS1 hl
theorem r_callS_v (C : CX D cs ad cc nL own fr lo U κ) (hu : u ≤ U) {y : MethodName} {b : ByteArray} {n nA idx : Nat} {rt : Option FieldType} {rm : Room} {rest : List Value} {post : Mm → Prop} (As9 : List Value) (hM : ∀ sz, Met l y (.code y b n rt :: TT) rm (va_Pc As9 (fun U9 => U9.heap.size = sz ∧ wB D cs ad (fA ad sz) M U9)) (va_Qv post (wB D cs ad (fA ad sz)) (fA ad sz)) 0 0 (fA ad sz)) (hG : GoodIn TT (wsS own idx y (.code y b n rt :: TT))) (hrm : rm.cells = 0 ∧ rm.slots = 0) (hyd : y.cls = own ∧ y.cls ≠ "java/lang/invoke/MethodHandle" ∧ y.cls ≠ "java/lang/invoke/VarHandle" ∧ (parseMethodDescriptor y.desc).map (fun d => d.parameters.length) = some nA) (hR : rm.frames + 1 ≤ fr ∧ 8 + (n + 11) + rm.locals ≤ lo) (hn : As9.length = nA) (hst : st = As9.reverse ++ rest) (hW8 : (rest.map fun v => v.category).sum ≤ 8) (d : decode cc pc = .ok (.invokestatic idx, 3)) (k : ∀ (M2 : Mm), post M2 → VV l D cs ad nL κ u M2 (pc + 3) lv rest) : VV l D cs ad nL κ u M pc lv st := by
  obtain ⟨p, e, R, s, m, args, below, meth, c, c0, s0, Q⟩ := κ
  obtain ⟨hx, hb, hml, hown, hts, hK, hD, hfr, hlo, hc0, hs0⟩ := C
  intro H locs ls hP hS hl
  subst hst
  refine va_callv (va_runS (As := As9) (rest := rest) ⟨hx, hb, hml, hown, hts⟩ (hM H.size) (cwS nA hts hG rfl hrm.1 hrm.2 hyd ⟨by rw [hfr]; exact hR.1, by rw [hlo]; exact hR.2⟩) ⟨fb_B, pr_B hK hP (hD M)⟩ rfl hn hl.1 rfl (lv_room hW8) d ⟨by omega, by omega⟩) hS (fun q _ h => fA_mono hS.1 h) (fun q h => fA_mono hS.1 h) (fun M2 t H1 locs1 ht hvm hw hB hz1 hk1 hS1 => ?_)
  exact k M2 hw H1 locs1 ls (by rw [← ht]; exact hB.1) hS1 hl
theorem r_callS2_v (C : CX D cs ad cc nL own fr lo U κ) (hu : u ≤ U) {y : MethodName} {b : ByteArray} {n nA idx : Nat} {rt : Option FieldType} {rm : Room} {rest : List Value} {post : Mm → Prop} (As9 : List Value) (hM : ∀ sz, Met l y (.code y b n rt :: TT) rm (va_Pc As9 (fun U9 => U9.heap.size = sz ∧ wB D cs ad (fA ad sz) M U9)) (va_Qv post (wB D cs ad (fA ad sz)) (fA ad sz)) 0 0 (fA ad sz)) (hG : GoodIn TT (va_wsS own idx y (.code y b n rt :: TT))) (hrm : rm.cells = 0 ∧ rm.slots = 0) (hyd : y.cls ≠ "java/lang/invoke/MethodHandle" ∧ y.cls ≠ "java/lang/invoke/VarHandle" ∧ (parseMethodDescriptor y.desc).map (fun d => d.parameters.length) = some nA) (hR : rm.frames + 1 ≤ fr ∧ 8 + (n + 11) + rm.locals ≤ lo) (hn : As9.length = nA) (hst : st = As9.reverse ++ rest) (hW8 : (rest.map fun v => v.category).sum ≤ 8) (d : decode cc pc = .ok (.invokestatic idx, 3)) (k : ∀ (M2 : Mm), post M2 → VV l D cs ad nL κ u M2 (pc + 3) lv rest) : VV l D cs ad nL κ u M pc lv st := by
  obtain ⟨p, e, R, s, m, args, below, meth, c, c0, s0, Q⟩ := κ
  obtain ⟨hx, hb, hml, hown, hts, hK, hD, hfr, hlo, hc0, hs0⟩ := C
  intro H locs ls hP hS hl
  subst hst
  refine va_callv (va_runS (As := As9) (rest := rest) ⟨hx, hb, hml, hown, hts⟩ (hM H.size) (va_cwS nA hts hG rfl hrm.1 hrm.2 hyd ⟨by rw [hfr]; exact hR.1, by rw [hlo]; exact hR.2⟩) ⟨fb_B, pr_B hK hP (hD M)⟩ rfl hn hl.1 rfl (lv_room hW8) d ⟨by omega, by omega⟩) hS (fun q _ h => fA_mono hS.1 h) (fun q h => fA_mono hS.1 h) (fun M2 t H1 locs1 ht hvm hw hB hz1 hk1 hS1 => ?_)
  exact k M2 hw H1 locs1 ls (by rw [← ht]; exact hB.1) hS1 hl
theorem r_callV_v (C : CX D cs ad cc nL own fr lo U κ) (hu : u ≤ U) {y : MethodName} {b : ByteArray} {n nA idx : Nat} {rt : Option FieldType} {rm : Room} {rest : List Value} {Cn : String} {ci id : Nat} {q9 : vw_C} {fs : List Value} {post : Mm → Prop} (As9 : List Value) (hM : ∀ sz, Met l y (.code y b n rt :: TT) rm (va_Pc (.ref (ad id) :: As9) (fun U9 => U9.heap.size = sz ∧ wB D cs ad (fA ad sz) M U9)) (va_Qv post (wB D cs ad (fA ad sz)) (fA ad sz)) 0 0 (fA ad sz)) (hG : GoodIn TT (wsV own idx Cn y (.code y b n rt :: TT))) (hrm : rm.cells = 0 ∧ rm.slots = 0) (hyd : y.cls = Cn ∧ y.cls ≠ "java/lang/invoke/MethodHandle" ∧ y.cls ≠ "java/lang/invoke/VarHandle" ∧ (parseMethodDescriptor y.desc).map (fun d => d.parameters.length) = some nA) (hR : rm.frames + 1 ≤ fr ∧ 8 + (n + 11) + rm.locals ≤ lo) (hid : id < 140) (he : wF cs ad id (M.1 id) (M.2 id) = .inr (ci, fs)) (hc : vwCl[ci]? = some q9) (hq9 : q9.1 = Cn) (hn : As9.length = nA) (hst : st = As9.reverse ++ .ref (ad id) :: rest) (hW8 : (rest.map fun v => v.category).sum ≤ 8) (d : decode cc pc = .ok (.invokevirtual idx, 3)) (k : ∀ (M2 : Mm), post M2 → VV l D cs ad nL κ u M2 (pc + 3) lv rest) : VV l D cs ad nL κ u M pc lv st := by
  obtain ⟨p, e, R, s, m, args, below, meth, c, c0, s0, Q⟩ := κ
  obtain ⟨hx, hb, hml, hown, hts, hK, hD, hfr, hlo, hc0, hs0⟩ := C
  intro H locs ls hP hS hl
  subst hst
  refine va_callv (va_runV (As := As9) (rest := rest) ⟨hx, hb, hml, hown, hts⟩ (hM H.size) (cwV nA hts hG rfl hrm.1 hrm.2 hyd ⟨by rw [hfr]; exact hR.1, by rw [hlo]; exact hR.2⟩) ⟨fb_B, ?_, pr_B hK hP (hD M)⟩ rfl hn hl.1 rfl (lv_room hW8) d ⟨by omega, by omega⟩) hS (fun q _ h => fA_mono hS.1 h) (fun q h => fA_mono hS.1 h) (fun M2 t H1 locs1 ht hvm hw hB hz1 hk1 hS1 => ?_)
  · have h9 := va_recv hK hP hc (show (wW cs ad M)[id]? = _ by rw [wW_get cs ad M hid, he])
    rw [hq9] at h9
    exact h9
  · exact k M2 hw H1 locs1 ls (by rw [← ht]; exact hB.1) hS1 hl
theorem r_pcallS_i (C : CX D cs ad cc nL own fr lo U κ) (hu : u ≤ U) {y : MethodName} {b : ByteArray} {n nA idx : Nat} {rt : Option FieldType} {rm : Room} {rest : List Value} {r9 : Int32} {M9 : Mm} (As9 : List Value) (hM : ∀ sz, Met l y (.code y b n rt :: TT) rm (va_Pc As9 (fun U9 => U9.heap.size = sz ∧ wB D cs ad (fA ad sz) M U9)) (va_Qi (fun r M2 => r = r9 ∧ M2 = M9) (wB D cs ad (fA ad sz)) (fA ad sz)) 0 0 (fA ad sz)) (hG : GoodIn TT (wsS own idx y (.code y b n rt :: TT))) (hrm : rm.cells = 0 ∧ rm.slots = 0) (hyd : y.cls = own ∧ y.cls ≠ "java/lang/invoke/MethodHandle" ∧ y.cls ≠ "java/lang/invoke/VarHandle" ∧ (parseMethodDescriptor y.desc).map (fun d => d.parameters.length) = some nA) (hR : rm.frames + 1 ≤ fr ∧ 8 + (n + 11) + rm.locals ≤ lo) (hn : As9.length = nA) (hst : st = As9.reverse ++ rest) (hW8 : (rest.map fun v => v.category).sum ≤ 8) (d : decode cc pc = .ok (.invokestatic idx, 3)) (k : VV l D cs ad nL κ u M9 (pc + 3) lv (.int r9 :: rest)) : VV l D cs ad nL κ u M pc lv st := r_callS_i C hu As9 hM hG hrm hyd hR hn hst hW8 d (fun r M2 h => by obtain ⟨h1, h2⟩ := h; rw [h1, h2]; exact k)
theorem r_pcallS2_i (C : CX D cs ad cc nL own fr lo U κ) (hu : u ≤ U) {y : MethodName} {b : ByteArray} {n nA idx : Nat} {rt : Option FieldType} {rm : Room} {rest : List Value} {r9 : Int32} {M9 : Mm} (As9 : List Value) (hM : ∀ sz, Met l y (.code y b n rt :: TT) rm (va_Pc As9 (fun U9 => U9.heap.size = sz ∧ wB D cs ad (fA ad sz) M U9)) (va_Qi (fun r M2 => r = r9 ∧ M2 = M9) (wB D cs ad (fA ad sz)) (fA ad sz)) 0 0 (fA ad sz)) (hG : GoodIn TT (va_wsS own idx y (.code y b n rt :: TT))) (hrm : rm.cells = 0 ∧ rm.slots = 0) (hyd : y.cls ≠ "java/lang/invoke/MethodHandle" ∧ y.cls ≠ "java/lang/invoke/VarHandle" ∧ (parseMethodDescriptor y.desc).map (fun d => d.parameters.length) = some nA) (hR : rm.frames + 1 ≤ fr ∧ 8 + (n + 11) + rm.locals ≤ lo) (hn : As9.length = nA) (hst : st = As9.reverse ++ rest) (hW8 : (rest.map fun v => v.category).sum ≤ 8) (d : decode cc pc = .ok (.invokestatic idx, 3)) (k : VV l D cs ad nL κ u M9 (pc + 3) lv (.int r9 :: rest)) : VV l D cs ad nL κ u M pc lv st := r_callS2_i C hu As9 hM hG hrm hyd hR hn hst hW8 d (fun r M2 h => by obtain ⟨h1, h2⟩ := h; rw [h1, h2]; exact k)
theorem r_pcallV_i (C : CX D cs ad cc nL own fr lo U κ) (hu : u ≤ U) {y : MethodName} {b : ByteArray} {n nA idx : Nat} {rt : Option FieldType} {rm : Room} {rest : List Value} {Cn : String} {ci id : Nat} {q9 : vw_C} {fs : List Value} {r9 : Int32} {M9 : Mm} (As9 : List Value) (hM : ∀ sz, Met l y (.code y b n rt :: TT) rm (va_Pc (.ref (ad id) :: As9) (fun U9 => U9.heap.size = sz ∧ wB D cs ad (fA ad sz) M U9)) (va_Qi (fun r M2 => r = r9 ∧ M2 = M9) (wB D cs ad (fA ad sz)) (fA ad sz)) 0 0 (fA ad sz)) (hG : GoodIn TT (wsV own idx Cn y (.code y b n rt :: TT))) (hrm : rm.cells = 0 ∧ rm.slots = 0) (hyd : y.cls = Cn ∧ y.cls ≠ "java/lang/invoke/MethodHandle" ∧ y.cls ≠ "java/lang/invoke/VarHandle" ∧ (parseMethodDescriptor y.desc).map (fun d => d.parameters.length) = some nA) (hR : rm.frames + 1 ≤ fr ∧ 8 + (n + 11) + rm.locals ≤ lo) (hid : id < 140) (he : wF cs ad id (M.1 id) (M.2 id) = .inr (ci, fs)) (hc : vwCl[ci]? = some q9) (hq9 : q9.1 = Cn) (hn : As9.length = nA) (hst : st = As9.reverse ++ .ref (ad id) :: rest) (hW8 : (rest.map fun v => v.category).sum ≤ 8) (d : decode cc pc = .ok (.invokevirtual idx, 3)) (k : VV l D cs ad nL κ u M9 (pc + 3) lv (.int r9 :: rest)) : VV l D cs ad nL κ u M pc lv st := r_callV_i C hu As9 hM hG hrm hyd hR hid he hc hq9 hn hst hW8 d (fun r M2 h => by obtain ⟨h1, h2⟩ := h; rw [h1, h2]; exact k)
theorem r_pcallS_l (C : CX D cs ad cc nL own fr lo U κ) (hu : u ≤ U) {y : MethodName} {b : ByteArray} {n nA idx : Nat} {rt : Option FieldType} {rm : Room} {rest : List Value} {r9 : Int64} {M9 : Mm} (As9 : List Value) (hM : ∀ sz, Met l y (.code y b n rt :: TT) rm (va_Pc As9 (fun U9 => U9.heap.size = sz ∧ wB D cs ad (fA ad sz) M U9)) (va_Ql (fun r M2 => r = r9 ∧ M2 = M9) (wB D cs ad (fA ad sz)) (fA ad sz)) 0 0 (fA ad sz)) (hG : GoodIn TT (wsS own idx y (.code y b n rt :: TT))) (hrm : rm.cells = 0 ∧ rm.slots = 0) (hyd : y.cls = own ∧ y.cls ≠ "java/lang/invoke/MethodHandle" ∧ y.cls ≠ "java/lang/invoke/VarHandle" ∧ (parseMethodDescriptor y.desc).map (fun d => d.parameters.length) = some nA) (hR : rm.frames + 1 ≤ fr ∧ 8 + (n + 11) + rm.locals ≤ lo) (hn : As9.length = nA) (hst : st = As9.reverse ++ rest) (hW8 : (rest.map fun v => v.category).sum ≤ 8) (d : decode cc pc = .ok (.invokestatic idx, 3)) (k : VV l D cs ad nL κ u M9 (pc + 3) lv (.long r9 :: rest)) : VV l D cs ad nL κ u M pc lv st := r_callS_l C hu As9 hM hG hrm hyd hR hn hst hW8 d (fun r M2 h => by obtain ⟨h1, h2⟩ := h; rw [h1, h2]; exact k)
theorem r_pcallS2_l (C : CX D cs ad cc nL own fr lo U κ) (hu : u ≤ U) {y : MethodName} {b : ByteArray} {n nA idx : Nat} {rt : Option FieldType} {rm : Room} {rest : List Value} {r9 : Int64} {M9 : Mm} (As9 : List Value) (hM : ∀ sz, Met l y (.code y b n rt :: TT) rm (va_Pc As9 (fun U9 => U9.heap.size = sz ∧ wB D cs ad (fA ad sz) M U9)) (va_Ql (fun r M2 => r = r9 ∧ M2 = M9) (wB D cs ad (fA ad sz)) (fA ad sz)) 0 0 (fA ad sz)) (hG : GoodIn TT (va_wsS own idx y (.code y b n rt :: TT))) (hrm : rm.cells = 0 ∧ rm.slots = 0) (hyd : y.cls ≠ "java/lang/invoke/MethodHandle" ∧ y.cls ≠ "java/lang/invoke/VarHandle" ∧ (parseMethodDescriptor y.desc).map (fun d => d.parameters.length) = some nA) (hR : rm.frames + 1 ≤ fr ∧ 8 + (n + 11) + rm.locals ≤ lo) (hn : As9.length = nA) (hst : st = As9.reverse ++ rest) (hW8 : (rest.map fun v => v.category).sum ≤ 8) (d : decode cc pc = .ok (.invokestatic idx, 3)) (k : VV l D cs ad nL κ u M9 (pc + 3) lv (.long r9 :: rest)) : VV l D cs ad nL κ u M pc lv st := r_callS2_l C hu As9 hM hG hrm hyd hR hn hst hW8 d (fun r M2 h => by obtain ⟨h1, h2⟩ := h; rw [h1, h2]; exact k)
theorem r_pcallV_l (C : CX D cs ad cc nL own fr lo U κ) (hu : u ≤ U) {y : MethodName} {b : ByteArray} {n nA idx : Nat} {rt : Option FieldType} {rm : Room} {rest : List Value} {Cn : String} {ci id : Nat} {q9 : vw_C} {fs : List Value} {r9 : Int64} {M9 : Mm} (As9 : List Value) (hM : ∀ sz, Met l y (.code y b n rt :: TT) rm (va_Pc (.ref (ad id) :: As9) (fun U9 => U9.heap.size = sz ∧ wB D cs ad (fA ad sz) M U9)) (va_Ql (fun r M2 => r = r9 ∧ M2 = M9) (wB D cs ad (fA ad sz)) (fA ad sz)) 0 0 (fA ad sz)) (hG : GoodIn TT (wsV own idx Cn y (.code y b n rt :: TT))) (hrm : rm.cells = 0 ∧ rm.slots = 0) (hyd : y.cls = Cn ∧ y.cls ≠ "java/lang/invoke/MethodHandle" ∧ y.cls ≠ "java/lang/invoke/VarHandle" ∧ (parseMethodDescriptor y.desc).map (fun d => d.parameters.length) = some nA) (hR : rm.frames + 1 ≤ fr ∧ 8 + (n + 11) + rm.locals ≤ lo) (hid : id < 140) (he : wF cs ad id (M.1 id) (M.2 id) = .inr (ci, fs)) (hc : vwCl[ci]? = some q9) (hq9 : q9.1 = Cn) (hn : As9.length = nA) (hst : st = As9.reverse ++ .ref (ad id) :: rest) (hW8 : (rest.map fun v => v.category).sum ≤ 8) (d : decode cc pc = .ok (.invokevirtual idx, 3)) (k : VV l D cs ad nL κ u M9 (pc + 3) lv (.long r9 :: rest)) : VV l D cs ad nL κ u M pc lv st := r_callV_l C hu As9 hM hG hrm hyd hR hid he hc hq9 hn hst hW8 d (fun r M2 h => by obtain ⟨h1, h2⟩ := h; rw [h1, h2]; exact k)
theorem r_pcallS_d (C : CX D cs ad cc nL own fr lo U κ) (hu : u ≤ U) {y : MethodName} {b : ByteArray} {n nA idx : Nat} {rt : Option FieldType} {rm : Room} {rest : List Value} {r9 : UInt64} {M9 : Mm} (As9 : List Value) (hM : ∀ sz, Met l y (.code y b n rt :: TT) rm (va_Pc As9 (fun U9 => U9.heap.size = sz ∧ wB D cs ad (fA ad sz) M U9)) (va_Qd (fun r M2 => r = r9 ∧ M2 = M9) (wB D cs ad (fA ad sz)) (fA ad sz)) 0 0 (fA ad sz)) (hG : GoodIn TT (wsS own idx y (.code y b n rt :: TT))) (hrm : rm.cells = 0 ∧ rm.slots = 0) (hyd : y.cls = own ∧ y.cls ≠ "java/lang/invoke/MethodHandle" ∧ y.cls ≠ "java/lang/invoke/VarHandle" ∧ (parseMethodDescriptor y.desc).map (fun d => d.parameters.length) = some nA) (hR : rm.frames + 1 ≤ fr ∧ 8 + (n + 11) + rm.locals ≤ lo) (hn : As9.length = nA) (hst : st = As9.reverse ++ rest) (hW8 : (rest.map fun v => v.category).sum ≤ 8) (d : decode cc pc = .ok (.invokestatic idx, 3)) (k : VV l D cs ad nL κ u M9 (pc + 3) lv (.double r9 :: rest)) : VV l D cs ad nL κ u M pc lv st := r_callS_d C hu As9 hM hG hrm hyd hR hn hst hW8 d (fun r M2 h => by obtain ⟨h1, h2⟩ := h; rw [h1, h2]; exact k)
theorem r_pcallS2_d (C : CX D cs ad cc nL own fr lo U κ) (hu : u ≤ U) {y : MethodName} {b : ByteArray} {n nA idx : Nat} {rt : Option FieldType} {rm : Room} {rest : List Value} {r9 : UInt64} {M9 : Mm} (As9 : List Value) (hM : ∀ sz, Met l y (.code y b n rt :: TT) rm (va_Pc As9 (fun U9 => U9.heap.size = sz ∧ wB D cs ad (fA ad sz) M U9)) (va_Qd (fun r M2 => r = r9 ∧ M2 = M9) (wB D cs ad (fA ad sz)) (fA ad sz)) 0 0 (fA ad sz)) (hG : GoodIn TT (va_wsS own idx y (.code y b n rt :: TT))) (hrm : rm.cells = 0 ∧ rm.slots = 0) (hyd : y.cls ≠ "java/lang/invoke/MethodHandle" ∧ y.cls ≠ "java/lang/invoke/VarHandle" ∧ (parseMethodDescriptor y.desc).map (fun d => d.parameters.length) = some nA) (hR : rm.frames + 1 ≤ fr ∧ 8 + (n + 11) + rm.locals ≤ lo) (hn : As9.length = nA) (hst : st = As9.reverse ++ rest) (hW8 : (rest.map fun v => v.category).sum ≤ 8) (d : decode cc pc = .ok (.invokestatic idx, 3)) (k : VV l D cs ad nL κ u M9 (pc + 3) lv (.double r9 :: rest)) : VV l D cs ad nL κ u M pc lv st := r_callS2_d C hu As9 hM hG hrm hyd hR hn hst hW8 d (fun r M2 h => by obtain ⟨h1, h2⟩ := h; rw [h1, h2]; exact k)
theorem r_pcallV_d (C : CX D cs ad cc nL own fr lo U κ) (hu : u ≤ U) {y : MethodName} {b : ByteArray} {n nA idx : Nat} {rt : Option FieldType} {rm : Room} {rest : List Value} {Cn : String} {ci id : Nat} {q9 : vw_C} {fs : List Value} {r9 : UInt64} {M9 : Mm} (As9 : List Value) (hM : ∀ sz, Met l y (.code y b n rt :: TT) rm (va_Pc (.ref (ad id) :: As9) (fun U9 => U9.heap.size = sz ∧ wB D cs ad (fA ad sz) M U9)) (va_Qd (fun r M2 => r = r9 ∧ M2 = M9) (wB D cs ad (fA ad sz)) (fA ad sz)) 0 0 (fA ad sz)) (hG : GoodIn TT (wsV own idx Cn y (.code y b n rt :: TT))) (hrm : rm.cells = 0 ∧ rm.slots = 0) (hyd : y.cls = Cn ∧ y.cls ≠ "java/lang/invoke/MethodHandle" ∧ y.cls ≠ "java/lang/invoke/VarHandle" ∧ (parseMethodDescriptor y.desc).map (fun d => d.parameters.length) = some nA) (hR : rm.frames + 1 ≤ fr ∧ 8 + (n + 11) + rm.locals ≤ lo) (hid : id < 140) (he : wF cs ad id (M.1 id) (M.2 id) = .inr (ci, fs)) (hc : vwCl[ci]? = some q9) (hq9 : q9.1 = Cn) (hn : As9.length = nA) (hst : st = As9.reverse ++ .ref (ad id) :: rest) (hW8 : (rest.map fun v => v.category).sum ≤ 8) (d : decode cc pc = .ok (.invokevirtual idx, 3)) (k : VV l D cs ad nL κ u M9 (pc + 3) lv (.double r9 :: rest)) : VV l D cs ad nL κ u M pc lv st := r_callV_d C hu As9 hM hG hrm hyd hR hid he hc hq9 hn hst hW8 d (fun r M2 h => by obtain ⟨h1, h2⟩ := h; rw [h1, h2]; exact k)
theorem r_pcallS_v (C : CX D cs ad cc nL own fr lo U κ) (hu : u ≤ U) {y : MethodName} {b : ByteArray} {n nA idx : Nat} {rt : Option FieldType} {rm : Room} {rest : List Value} {M9 : Mm} (As9 : List Value) (hM : ∀ sz, Met l y (.code y b n rt :: TT) rm (va_Pc As9 (fun U9 => U9.heap.size = sz ∧ wB D cs ad (fA ad sz) M U9)) (va_Qv (fun M2 => M2 = M9) (wB D cs ad (fA ad sz)) (fA ad sz)) 0 0 (fA ad sz)) (hG : GoodIn TT (wsS own idx y (.code y b n rt :: TT))) (hrm : rm.cells = 0 ∧ rm.slots = 0) (hyd : y.cls = own ∧ y.cls ≠ "java/lang/invoke/MethodHandle" ∧ y.cls ≠ "java/lang/invoke/VarHandle" ∧ (parseMethodDescriptor y.desc).map (fun d => d.parameters.length) = some nA) (hR : rm.frames + 1 ≤ fr ∧ 8 + (n + 11) + rm.locals ≤ lo) (hn : As9.length = nA) (hst : st = As9.reverse ++ rest) (hW8 : (rest.map fun v => v.category).sum ≤ 8) (d : decode cc pc = .ok (.invokestatic idx, 3)) (k : VV l D cs ad nL κ u M9 (pc + 3) lv (rest)) : VV l D cs ad nL κ u M pc lv st := r_callS_v C hu As9 hM hG hrm hyd hR hn hst hW8 d (fun M2 h => by rw [h]; exact k)
theorem r_pcallS2_v (C : CX D cs ad cc nL own fr lo U κ) (hu : u ≤ U) {y : MethodName} {b : ByteArray} {n nA idx : Nat} {rt : Option FieldType} {rm : Room} {rest : List Value} {M9 : Mm} (As9 : List Value) (hM : ∀ sz, Met l y (.code y b n rt :: TT) rm (va_Pc As9 (fun U9 => U9.heap.size = sz ∧ wB D cs ad (fA ad sz) M U9)) (va_Qv (fun M2 => M2 = M9) (wB D cs ad (fA ad sz)) (fA ad sz)) 0 0 (fA ad sz)) (hG : GoodIn TT (va_wsS own idx y (.code y b n rt :: TT))) (hrm : rm.cells = 0 ∧ rm.slots = 0) (hyd : y.cls ≠ "java/lang/invoke/MethodHandle" ∧ y.cls ≠ "java/lang/invoke/VarHandle" ∧ (parseMethodDescriptor y.desc).map (fun d => d.parameters.length) = some nA) (hR : rm.frames + 1 ≤ fr ∧ 8 + (n + 11) + rm.locals ≤ lo) (hn : As9.length = nA) (hst : st = As9.reverse ++ rest) (hW8 : (rest.map fun v => v.category).sum ≤ 8) (d : decode cc pc = .ok (.invokestatic idx, 3)) (k : VV l D cs ad nL κ u M9 (pc + 3) lv (rest)) : VV l D cs ad nL κ u M pc lv st := r_callS2_v C hu As9 hM hG hrm hyd hR hn hst hW8 d (fun M2 h => by rw [h]; exact k)
theorem r_pcallV_v (C : CX D cs ad cc nL own fr lo U κ) (hu : u ≤ U) {y : MethodName} {b : ByteArray} {n nA idx : Nat} {rt : Option FieldType} {rm : Room} {rest : List Value} {Cn : String} {ci id : Nat} {q9 : vw_C} {fs : List Value} {M9 : Mm} (As9 : List Value) (hM : ∀ sz, Met l y (.code y b n rt :: TT) rm (va_Pc (.ref (ad id) :: As9) (fun U9 => U9.heap.size = sz ∧ wB D cs ad (fA ad sz) M U9)) (va_Qv (fun M2 => M2 = M9) (wB D cs ad (fA ad sz)) (fA ad sz)) 0 0 (fA ad sz)) (hG : GoodIn TT (wsV own idx Cn y (.code y b n rt :: TT))) (hrm : rm.cells = 0 ∧ rm.slots = 0) (hyd : y.cls = Cn ∧ y.cls ≠ "java/lang/invoke/MethodHandle" ∧ y.cls ≠ "java/lang/invoke/VarHandle" ∧ (parseMethodDescriptor y.desc).map (fun d => d.parameters.length) = some nA) (hR : rm.frames + 1 ≤ fr ∧ 8 + (n + 11) + rm.locals ≤ lo) (hid : id < 140) (he : wF cs ad id (M.1 id) (M.2 id) = .inr (ci, fs)) (hc : vwCl[ci]? = some q9) (hq9 : q9.1 = Cn) (hn : As9.length = nA) (hst : st = As9.reverse ++ .ref (ad id) :: rest) (hW8 : (rest.map fun v => v.category).sum ≤ 8) (d : decode cc pc = .ok (.invokevirtual idx, 3)) (k : VV l D cs ad nL κ u M9 (pc + 3) lv (rest)) : VV l D cs ad nL κ u M pc lv st := r_callV_v C hu As9 hM hG hrm hyd hR hid he hc hq9 hn hst hW8 d (fun M2 h => by rw [h]; exact k)
/-- the method's end, with its answer -/
def eI (l : Launch) (D : va_G) (cs : Nat → ClassId) (ad : Nat → Nat) (nL : Nat) (cc : ByteArray) (U : Nat) (κ : Kx) (post : Int32 → Mm → Prop) : Prop := ∀ (u : Nat) (M : Mm) (pc : Nat) (lv : List (Nat × Value)) (v : Int32), u ≤ U → decode cc pc = .ok (.ireturn, 1) → post v M → VV l D cs ad nL κ u M pc lv [.int v]
/-- the method's end, with its answer -/
def eZ (l : Launch) (D : va_G) (cs : Nat → ClassId) (ad : Nat → Nat) (nL : Nat) (cc : ByteArray) (U : Nat) (κ : Kx) (post : Int32 → Mm → Prop) : Prop := ∀ (u : Nat) (M : Mm) (pc : Nat) (lv : List (Nat × Value)) (v : Int32), u ≤ U → decode cc pc = .ok (.ireturn, 1) → narrow .boolean (.int v) = .int v → post v M → VV l D cs ad nL κ u M pc lv [.int v]
/-- the method's end, with its answer -/
def eL (l : Launch) (D : va_G) (cs : Nat → ClassId) (ad : Nat → Nat) (nL : Nat) (cc : ByteArray) (U : Nat) (κ : Kx) (post : Int64 → Mm → Prop) : Prop := ∀ (u : Nat) (M : Mm) (pc : Nat) (lv : List (Nat × Value)) (v : Int64), u ≤ U → decode cc pc = .ok (.lreturn, 1) → post v M → VV l D cs ad nL κ u M pc lv [.long v]
/-- the method's end, with its answer -/
def eD (l : Launch) (D : va_G) (cs : Nat → ClassId) (ad : Nat → Nat) (nL : Nat) (cc : ByteArray) (U : Nat) (κ : Kx) (post : UInt64 → Mm → Prop) : Prop := ∀ (u : Nat) (M : Mm) (pc : Nat) (lv : List (Nat × Value)) (v : UInt64), u ≤ U → decode cc pc = .ok (.dreturn, 1) → post v M → VV l D cs ad nL κ u M pc lv [.double v]
def eV (l : Launch) (D : va_G) (cs : Nat → ClassId) (ad : Nat → Nat) (nL : Nat) (cc : ByteArray) (U : Nat) (κ : Kx) (post : Mm → Prop) : Prop := ∀ (u : Nat) (M : Mm) (pc : Nat) (lv : List (Nat × Value)), u ≤ U → decode cc pc = .ok (.return_, 1) → post M → VV l D cs ad nL κ u M pc lv []
theorem st_I {y : MethodName} {b : ByteArray} {n : Nat} {As : List Value} {post : Int32 → Mm → Prop} (hy : plainName y.cls = true) (hAs : (lg_sl As).length ≤ n) (body : ∀ κ, CX D cs ad b n y.cls fr lo 0 κ → eI l D cs ad n b 0 κ post → VV l D cs ad n κ 0 M 0 (lv_args 0 As) []) (sz : Nat) : Met l y (.code y b n (some .int) :: TT) { frames := fr, cells := 0, slots := 0, locals := lo } (va_Pc As (fun U9 => U9.heap.size = sz ∧ wB D cs ad (fA ad sz) M U9)) (va_Qi post (wB D cs ad (fA ad sz)) (fA ad sz)) 0 0 (fA ad sz) := by
  refine Met.ofW (cc := b) (maxL := n) (ret := (some .int)) hy rfl ?_
  intro p e s m args below meth c s₁ B hml hv
  obtain ⟨rfl, hsz, hP, hK, hD0⟩ := hv
  have hx := B.exec
  have hb := B.bytes
  have hr := B.returns
  have hts0 := atoms_spec (ws := .code y b n (some .int) :: TT) B.pre
  have hts : ∀ w ∈ TT, w.before As.toArray s = true := fun w hw => hts0 w (List.mem_cons_of_mem _ hw)
  have hown := findClass_of_methodNamed B.named
  have hlocks := B.notSynchronized
  subst hsz
  have hD : ∀ M, va_D (fA ad s.heap.size) (wW cs ad M) := fun M' => wD_any (fun i hi => fA_in hi) hD0 M'
  have hl := lv_entry As (n := n) hAs
  rw [lg_entry_eq]
  generalize (lg_sl As ++ List.replicate (n - (lg_sl As).length) Slot.unset).toArray = ls at hl ⊢
  refine body (p, e, _, s, m, As.toArray, below, meth, c, 0, 0, _) ⟨hx, hb, hml, hown, hts, hK, hD, rfl, rfl, Nat.le_refl _, Nat.le_refl _⟩ ?_ s.heap [] ls hP va_S.rf hl
  intro u M2 pc lv v hu d hpost
  obtain rfl : u = 0 := by omega
  intro H locs ls hP hS hl
  exact W.iret hx hb hr (fun t ht hW => ⟨⟨v, M2, rfl, hpost, by rw [ht]; exact hP, va_K.moved hW.alike hK, hD M2⟩, hS.F ht⟩) hS.2.2 d hlocks
theorem st_Z {y : MethodName} {b : ByteArray} {n : Nat} {As : List Value} {post : Int32 → Mm → Prop} (hy : plainName y.cls = true) (hAs : (lg_sl As).length ≤ n) (body : ∀ κ, CX D cs ad b n y.cls fr lo 0 κ → eZ l D cs ad n b 0 κ post → VV l D cs ad n κ 0 M 0 (lv_args 0 As) []) (sz : Nat) : Met l y (.code y b n (some .boolean) :: TT) { frames := fr, cells := 0, slots := 0, locals := lo } (va_Pc As (fun U9 => U9.heap.size = sz ∧ wB D cs ad (fA ad sz) M U9)) (va_Qi post (wB D cs ad (fA ad sz)) (fA ad sz)) 0 0 (fA ad sz) := by
  refine Met.ofW (cc := b) (maxL := n) (ret := (some .boolean)) hy rfl ?_
  intro p e s m args below meth c s₁ B hml hv
  obtain ⟨rfl, hsz, hP, hK, hD0⟩ := hv
  have hx := B.exec
  have hb := B.bytes
  have hr := B.returns
  have hts0 := atoms_spec (ws := .code y b n (some .boolean) :: TT) B.pre
  have hts : ∀ w ∈ TT, w.before As.toArray s = true := fun w hw => hts0 w (List.mem_cons_of_mem _ hw)
  have hown := findClass_of_methodNamed B.named
  have hlocks := B.notSynchronized
  subst hsz
  have hD : ∀ M, va_D (fA ad s.heap.size) (wW cs ad M) := fun M' => wD_any (fun i hi => fA_in hi) hD0 M'
  have hl := lv_entry As (n := n) hAs
  rw [lg_entry_eq]
  generalize (lg_sl As ++ List.replicate (n - (lg_sl As).length) Slot.unset).toArray = ls at hl ⊢
  refine body (p, e, _, s, m, As.toArray, below, meth, c, 0, 0, _) ⟨hx, hb, hml, hown, hts, hK, hD, rfl, rfl, Nat.le_refl _, Nat.le_refl _⟩ ?_ s.heap [] ls hP va_S.rf hl
  intro u M2 pc lv v hu d hnr hpost
  obtain rfl : u = 0 := by omega
  intro H locs ls hP hS hl
  exact W.zret hx hb hr hnr (fun t ht hW => ⟨⟨v, M2, rfl, hpost, by rw [ht]; exact hP, va_K.moved hW.alike hK, hD M2⟩, hS.F ht⟩) hS.2.2 d hlocks
theorem st_L {y : MethodName} {b : ByteArray} {n : Nat} {As : List Value} {post : Int64 → Mm → Prop} (hy : plainName y.cls = true) (hAs : (lg_sl As).length ≤ n) (body : ∀ κ, CX D cs ad b n y.cls fr lo 0 κ → eL l D cs ad n b 0 κ post → VV l D cs ad n κ 0 M 0 (lv_args 0 As) []) (sz : Nat) : Met l y (.code y b n (some .long) :: TT) { frames := fr, cells := 0, slots := 0, locals := lo } (va_Pc As (fun U9 => U9.heap.size = sz ∧ wB D cs ad (fA ad sz) M U9)) (va_Ql post (wB D cs ad (fA ad sz)) (fA ad sz)) 0 0 (fA ad sz) := by
  refine Met.ofW (cc := b) (maxL := n) (ret := (some .long)) hy rfl ?_
  intro p e s m args below meth c s₁ B hml hv
  obtain ⟨rfl, hsz, hP, hK, hD0⟩ := hv
  have hx := B.exec
  have hb := B.bytes
  have hr := B.returns
  have hts0 := atoms_spec (ws := .code y b n (some .long) :: TT) B.pre
  have hts : ∀ w ∈ TT, w.before As.toArray s = true := fun w hw => hts0 w (List.mem_cons_of_mem _ hw)
  have hown := findClass_of_methodNamed B.named
  have hlocks := B.notSynchronized
  subst hsz
  have hD : ∀ M, va_D (fA ad s.heap.size) (wW cs ad M) := fun M' => wD_any (fun i hi => fA_in hi) hD0 M'
  have hl := lv_entry As (n := n) hAs
  rw [lg_entry_eq]
  generalize (lg_sl As ++ List.replicate (n - (lg_sl As).length) Slot.unset).toArray = ls at hl ⊢
  refine body (p, e, _, s, m, As.toArray, below, meth, c, 0, 0, _) ⟨hx, hb, hml, hown, hts, hK, hD, rfl, rfl, Nat.le_refl _, Nat.le_refl _⟩ ?_ s.heap [] ls hP va_S.rf hl
  intro u M2 pc lv v hu d hpost
  obtain rfl : u = 0 := by omega
  intro H locs ls hP hS hl
  exact W.lret hx hb hr (fun t ht hW => ⟨⟨v, M2, rfl, hpost, by rw [ht]; exact hP, va_K.moved hW.alike hK, hD M2⟩, hS.F ht⟩) hS.2.2 d hlocks
theorem st_D {y : MethodName} {b : ByteArray} {n : Nat} {As : List Value} {post : UInt64 → Mm → Prop} (hy : plainName y.cls = true) (hAs : (lg_sl As).length ≤ n) (body : ∀ κ, CX D cs ad b n y.cls fr lo 0 κ → eD l D cs ad n b 0 κ post → VV l D cs ad n κ 0 M 0 (lv_args 0 As) []) (sz : Nat) : Met l y (.code y b n (some .double) :: TT) { frames := fr, cells := 0, slots := 0, locals := lo } (va_Pc As (fun U9 => U9.heap.size = sz ∧ wB D cs ad (fA ad sz) M U9)) (va_Qd post (wB D cs ad (fA ad sz)) (fA ad sz)) 0 0 (fA ad sz) := by
  refine Met.ofW (cc := b) (maxL := n) (ret := (some .double)) hy rfl ?_
  intro p e s m args below meth c s₁ B hml hv
  obtain ⟨rfl, hsz, hP, hK, hD0⟩ := hv
  have hx := B.exec
  have hb := B.bytes
  have hr := B.returns
  have hts0 := atoms_spec (ws := .code y b n (some .double) :: TT) B.pre
  have hts : ∀ w ∈ TT, w.before As.toArray s = true := fun w hw => hts0 w (List.mem_cons_of_mem _ hw)
  have hown := findClass_of_methodNamed B.named
  have hlocks := B.notSynchronized
  subst hsz
  have hD : ∀ M, va_D (fA ad s.heap.size) (wW cs ad M) := fun M' => wD_any (fun i hi => fA_in hi) hD0 M'
  have hl := lv_entry As (n := n) hAs
  rw [lg_entry_eq]
  generalize (lg_sl As ++ List.replicate (n - (lg_sl As).length) Slot.unset).toArray = ls at hl ⊢
  refine body (p, e, _, s, m, As.toArray, below, meth, c, 0, 0, _) ⟨hx, hb, hml, hown, hts, hK, hD, rfl, rfl, Nat.le_refl _, Nat.le_refl _⟩ ?_ s.heap [] ls hP va_S.rf hl
  intro u M2 pc lv v hu d hpost
  obtain rfl : u = 0 := by omega
  intro H locs ls hP hS hl
  exact W.dret hx hb hr (fun t ht hW => ⟨⟨v, M2, rfl, hpost, by rw [ht]; exact hP, va_K.moved hW.alike hK, hD M2⟩, hS.F ht⟩) hS.2.2 d hlocks
theorem st_V {y : MethodName} {b : ByteArray} {n : Nat} {As : List Value} {post : Mm → Prop} (hy : plainName y.cls = true) (hAs : (lg_sl As).length ≤ n) (body : ∀ κ, CX D cs ad b n y.cls fr lo 0 κ → eV l D cs ad n b 0 κ post → VV l D cs ad n κ 0 M 0 (lv_args 0 As) []) (sz : Nat) : Met l y (.code y b n none :: TT) { frames := fr, cells := 0, slots := 0, locals := lo } (va_Pc As (fun U9 => U9.heap.size = sz ∧ wB D cs ad (fA ad sz) M U9)) (va_Qv post (wB D cs ad (fA ad sz)) (fA ad sz)) 0 0 (fA ad sz) := by
  refine Met.ofW (cc := b) (maxL := n) (ret := none) hy rfl ?_
  intro p e s m args below meth c s₁ B hml hv
  obtain ⟨rfl, hsz, hP, hK, hD0⟩ := hv
  have hx := B.exec
  have hb := B.bytes
  have hr := B.returns
  have hts0 := atoms_spec (ws := .code y b n none :: TT) B.pre
  have hts : ∀ w ∈ TT, w.before As.toArray s = true := fun w hw => hts0 w (List.mem_cons_of_mem _ hw)
  have hown := findClass_of_methodNamed B.named
  have hlocks := B.notSynchronized
  subst hsz
  have hD : ∀ M, va_D (fA ad s.heap.size) (wW cs ad M) := fun M' => wD_any (fun i hi => fA_in hi) hD0 M'
  have hl := lv_entry As (n := n) hAs
  rw [lg_entry_eq]
  generalize (lg_sl As ++ List.replicate (n - (lg_sl As).length) Slot.unset).toArray = ls at hl ⊢
  refine body (p, e, _, s, m, As.toArray, below, meth, c, 0, 0, _) ⟨hx, hb, hml, hown, hts, hK, hD, rfl, rfl, Nat.le_refl _, Nat.le_refl _⟩ ?_ s.heap [] ls hP va_S.rf hl
  intro u M2 pc lv hu d hpost
  obtain rfl : u = 0 := by omega
  intro H locs ls hP hS hl
  exact W.vret hx hb hr (fun t ht hW => ⟨⟨M2, rfl, hpost, by rw [ht]; exact hP, va_K.moved hW.alike hK, hD M2⟩, hS.F ht⟩) hS.2.2 d hlocks
end VVS
