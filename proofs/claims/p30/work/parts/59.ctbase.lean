/-! ===== constructors: rows on a world of n cells (written by wip/whole/gen/ctbase.py) ===== -/
def aW (ad : Nat → Nat) (F : Nat → va_E) (n : Nat) : va_W := (List.range n).map (fun i => (ad i, F i))
/-- f, but v at k -/
def uN {α : Type} (f : Nat → α) (k : Nat) (v : α) : Nat → α := fun i => if i = k then v else f i
/-- f below n, from there on g -/
def cN {α : Type} (f : Nat → α) (n : Nat) (g : Nat → α) : Nat → α := fun i => if i < n then f i else g (i - n)
theorem aW_get {ad : Nat → Nat} {F : Nat → va_E} {n i : Nat} (h : i < n) : (aW ad F n)[i]? = some (ad i, F i) := by
  unfold aW
  rw [List.getElem?_map, List.getElem?_range h]
  rfl
theorem aW_inv {ad : Nat → Nat} {F : Nat → va_E} {n k : Nat} {q : Nat × va_E} (h : (aW ad F n)[k]? = some q) : k < n ∧ q = (ad k, F k) := by
  have hk : k < n := by
    have := (List.getElem?_eq_some_iff.mp h).1
    simpa [aW] using this
  rw [aW_get hk] at h
  exact ⟨hk, (Option.some.inj h).symm⟩
theorem aW_none {ad : Nat → Nat} {F : Nat → va_E} {n k : Nat} (h : n ≤ k) : (aW ad F n)[k]? = none := List.getElem?_eq_none (by simpa [aW] using h)
theorem aW_cg {ad ad2 : Nat → Nat} {F G : Nat → va_E} {n : Nat} (h : ∀ i, i < n → ad i = ad2 i ∧ F i = G i) : aW ad F n = aW ad2 G n := by
  apply List.ext_getElem?
  intro j
  rcases Nat.lt_or_ge j n with q | q
  · rw [aW_get q, aW_get q, (h j q).1, (h j q).2]
  · rw [aW_none q, aW_none q]
theorem aW_push {ad : Nat → Nat} {F : Nat → va_E} {n q : Nat} {e : va_E} : aW ad F n ++ [(q, e)] = aW (uN ad n q) (uN F n e) (n + 1) := by
  have h1 : aW ad F n = aW (uN ad n q) (uN F n e) n := aW_cg (fun i hi => ⟨(if_neg (Nat.ne_of_lt hi)).symm, (if_neg (Nat.ne_of_lt hi)).symm⟩)
  rw [h1]
  unfold aW
  rw [List.range_succ, List.map_append]
  show _ = _ ++ [(uN ad n q n, uN F n e n)]
  unfold uN
  rw [if_pos rfl, if_pos rfl]
theorem aW_set {ad : Nat → Nat} {F : Nat → va_E} {n i : Nat} {e : va_E} (hi : i < n) : (aW ad F n).set i (ad i, e) = aW ad (uN F i e) n := by
  apply List.ext_getElem?
  intro j
  rw [List.getElem?_set]
  by_cases h : i = j
  · subst h
    rw [if_pos rfl, aW_get hi, if_pos (by simpa [aW] using hi)]
    unfold uN; rw [if_pos rfl]
  · rw [if_neg h]
    rcases Nat.lt_or_ge j n with q | q
    · rw [aW_get q, aW_get q]; unfold uN; rw [if_neg (fun w => h w.symm)]
    · rw [aW_none q, aW_none q]
/-- what a walk writes: n cells, and what it makes -/
def oA (ad : Nat → Nat) (n sz : Nat) : Nat → Prop := fun q => (∃ i, i < n ∧ q = ad i) ∨ sz ≤ q
/-- the links of nest mates' constructors -/
def eNw : List Cond := [.methodLinkNest RX7 33 yX3_init RX7, .methodLinkNest RX7 40 yX2_init RX7, .methodLinkNest RX7 47 yX1_init RX7, .methodLinkNest RX7 54 yX0_init RX7, .methodLinkNest RX7 61 yX5_init RX7, .methodLinkNest RX5 17 yX0_init RX7]
theorem eNw_k : ∀ w ∈ eNw, xk w = true := fun w h => List.all_eq_true.mp (show eNw.all xk = true by decide +kernel) w h
/-- a constructor's start -/
def KP (D : va_G) (cs : Nat → ClassId) (ad : Nat → Nat) (F : Nat → va_E) (n sz : Nat) (U : State) : Prop := U.heap.size = sz ∧ va_P D vwCl (aW ad F n) U.heap ∧ va_D (oA ad n sz) (aW ad F n) ∧ va_K D vwCl (tyC cs) U ∧ va_AO RX4 U ∧ va_AOA .int U ∧ ∀ w ∈ eNw, va_Nw w U
def KQ (D : va_G) (A : Nat → Prop) (F : (Nat → Nat) → Nat → va_E) (n : Nat) (u : Nat → Nat) (U : State) : Prop := va_P D vwCl (aW u (F u) n) U.heap ∧ va_D A (aW u (F u) n)
/-- what stays through a constructor's walk -/
def CE (D : va_G) (cs : Nat → ClassId) (A : Nat → Prop) (cc : ByteArray) (nL : Nat) (own : String) (fr lo rc rs : Nat) : Kx → Prop
  | (p, _, R, s, m, args, _, _, c, _, _, _) => p.tables.exec = Jvm.exec ∧ c.code = cc ∧ c.maxLocals = nL ∧ s.vm.findClass own = some m.cls ∧ (∀ w ∈ TT, w.before args s = true) ∧ va_K D vwCl (tyC cs) s ∧ R.frames = fr ∧ R.locals = lo ∧ R.cells = rc ∧ R.slots = rs ∧ va_AO RX4 s ∧ va_AOA .int s ∧ (∀ w ∈ eNw, va_Nw w s) ∧ ∀ q, s.heap.size ≤ q → A q
def CI : Kx → String → Prop
  | (_, _, _, _, _, _, _, meth, _), nm => meth.name = nm
def EV (l : Launch) (D : va_G) (nL : Nat) (A : Nat → Prop) : Kx → Nat → Nat → (Nat → Nat) → (Nat → va_E) → Nat → Nat → List (Nat × Value) → List Value → Prop
  | (p, e, R, s, m, args, below, meth, c, _, _, Q), cl, sl, ad, F, n, pc, lv, st => ∀ (H : Heap) (locs : List Loc) (ls : Array Slot), va_P D vwCl (aW ad F n) H → va_D A (aW ad F n) → va_S A s.heap H locs → lv_has ls nL lv → W p l e R s m args below meth c H locs cl sl Q (F0 m pc ls st)
theorem va_AOA.moved {u U : State} (hvm : u.vm.Alike U.vm) (h : va_AOA .int u) : va_AOA .int U := by
  have h0 := h
  unfold va_AOA Cond.before Cond.holds at h0
  simp only [Cond.value, beq_iff_eq] at h0
  rw [Option.bind_eq_some_iff] at h0
  obtain ⟨comp, h1, h0⟩ := h0
  rw [Option.bind_eq_some_iff] at h0
  obtain ⟨c, h2, h0⟩ := h0
  rw [Option.map_eq_some_iff] at h0
  obtain ⟨k, h3, h4⟩ := h0
  obtain ⟨k', hk', he⟩ := hvm.2.2 _ _ h3
  have hi : (U.vm.classes.findIdx? fun (x : Class) => match x.kind with | .array component _ => component == comp | _ => false) = some c := by
    have e : U.vm.bare = u.vm.bare := by first | exact hvm.bare_eq | exact hvm.bare_eq.symm
    exact (va_idx_bare U.vm comp).symm.trans ((congrArg (fun v : Vm => (v.classes.findIdx? fun (x : Class) => match x.kind with | .array component _ => component == comp | _ => false)) e).trans ((va_idx_bare u.vm comp).trans h2))
  have hkk : k'.kind = k.kind := by rw [he]
  have f1 : U.vm.findClass (FieldType.array .int).toString = some comp := by rw [hvm.findClass]; exact h1
  unfold va_AOA Cond.before Cond.holds
  simp only [Cond.value, beq_iff_eq]
  rw [Option.bind_eq_some_iff]
  refine ⟨comp, f1, ?_⟩
  rw [Option.bind_eq_some_iff]
  refine ⟨c, hi, ?_⟩
  rw [Option.map_eq_some_iff]
  refine ⟨k', hk', ?_⟩
  rw [hvm.findClass, hkk]
  exact h4
section EVS
variable {l : Launch} {D : va_G} {cs : Nat → ClassId} {ad : Nat → Nat} {F : Nat → va_E} {n9 : Nat} {nL : Nat} {A : Nat → Prop} {κ : Kx} {cl sl : Nat} {pc : Nat} {lv : List (Nat × Value)} {st : List Value} {cc : ByteArray} {own : String} {fr lo rc rs : Nat}
theorem e_iconst (C : CE D cs A cc nL own fr lo rc rs κ) {n : Int} (v : Int32) (d : decode cc pc = .ok (.iconst n, 1)) (hv : Int32.ofInt n = v) (k : EV l D nL A κ cl sl ad F n9 (pc + 1) lv (.int v :: st)) : EV l D nL A κ cl sl ad F n9 pc lv st := by
  obtain ⟨p, e, R, s, m, args, below, meth, c, c0, s0, Q⟩ := κ
  obtain ⟨hx, hb, hml, hown, hts, hK, hfr, hlo, hrc, hrs, hAO, hAA, hNw, hA⟩ := C
  intro H locs ls hP hD hS hl
  exact lv_iconst hx hb d hv (k H locs ls hP hD hS hl)
theorem e_bipush (C : CE D cs A cc nL own fr lo rc rs κ) {n : Int} (v : Int32) (d : decode cc pc = .ok (.bipush n, 2)) (hv : (Int8.ofInt n).toInt32 = v) (k : EV l D nL A κ cl sl ad F n9 (pc + 2) lv (.int v :: st)) : EV l D nL A κ cl sl ad F n9 pc lv st := by
  obtain ⟨p, e, R, s, m, args, below, meth, c, c0, s0, Q⟩ := κ
  obtain ⟨hx, hb, hml, hown, hts, hK, hfr, hlo, hrc, hrs, hAO, hAA, hNw, hA⟩ := C
  intro H locs ls hP hD hS hl
  exact lv_bipush hx hb d hv (k H locs ls hP hD hS hl)
theorem e_sipush (C : CE D cs A cc nL own fr lo rc rs κ) {n : Int} (v : Int32) (d : decode cc pc = .ok (.sipush n, 3)) (hv : (Int16.ofInt n).toInt32 = v) (k : EV l D nL A κ cl sl ad F n9 (pc + 3) lv (.int v :: st)) : EV l D nL A κ cl sl ad F n9 pc lv st := by
  obtain ⟨p, e, R, s, m, args, below, meth, c, c0, s0, Q⟩ := κ
  obtain ⟨hx, hb, hml, hown, hts, hK, hfr, hlo, hrc, hrs, hAO, hAA, hNw, hA⟩ := C
  intro H locs ls hP hD hS hl
  exact lv_sipush hx hb d hv (k H locs ls hP hD hS hl)
theorem e_ldc2 (C : CE D cs A cc nL own fr lo rc rs κ) {i : Nat} (v : Int64) (w : Cond.constantLong own i v ∈ TT) (d : decode cc pc = .ok (.ldc2_w i, 3)) (k : EV l D nL A κ cl sl ad F n9 (pc + 3) lv (.long v :: st)) : EV l D nL A κ cl sl ad F n9 pc lv st := by
  obtain ⟨p, e, R, s, m, args, below, meth, c, c0, s0, Q⟩ := κ
  obtain ⟨hx, hb, hml, hown, hts, hK, hfr, hlo, hrc, hrs, hAO, hAA, hNw, hA⟩ := C
  intro H locs ls hP hD hS hl
  exact lv_ldc2 hx hb hown (hts _ w) d (k H locs ls hP hD hS hl)
theorem e_iload_n (C : CE D cs A cc nL own fr lo rc rs κ) {k9 : Fin 4} {i : Nat} {x : Int32} (d : decode cc pc = .ok (.iload_n k9, 1)) (hi : (k9 : Nat) = i) (j : Nat) (hj : lv[j]? = some (i, .int x)) (k : EV l D nL A κ cl sl ad F n9 (pc + 1) lv (.int x :: st)) : EV l D nL A κ cl sl ad F n9 pc lv st := by
  obtain ⟨p, e, R, s, m, args, below, meth, c, c0, s0, Q⟩ := κ
  obtain ⟨hx, hb, hml, hown, hts, hK, hfr, hlo, hrc, hrs, hAO, hAA, hNw, hA⟩ := C
  intro H locs ls hP hD hS hl
  exact lv_iload_n hx hb d hi (lv_at hl j hj) (k H locs ls hP hD hS hl)
theorem e_istore_n (C : CE D cs A cc nL own fr lo rc rs κ) {k9 : Fin 4} {i : Nat} {x : Int32} (lv2 : List (Nat × Value)) (d : decode cc pc = .ok (.istore_n k9, 1)) (hi : (k9 : Nat) = i) (hn : i < nL) (h2 : (i, Value.int x) :: lv.filter (fun q => !(q.1 == i) && !(q.1 + 1 == i && q.2.category == 2)) = lv2) (k : EV l D nL A κ cl sl ad F n9 (pc + 1) lv2 st) : EV l D nL A κ cl sl ad F n9 pc lv (.int x :: st) := by
  obtain ⟨p, e, R, s, m, args, below, meth, c, c0, s0, Q⟩ := κ
  obtain ⟨hx, hb, hml, hown, hts, hK, hfr, hlo, hrc, hrs, hAO, hAA, hNw, hA⟩ := C
  intro H locs ls hP hD hS hl
  exact lv_istore_n hx hb d hi hl hn h2 (fun ls hl => k H locs ls hP hD hS hl)
theorem e_aload_n (C : CE D cs A cc nL own fr lo rc rs κ) {k9 : Fin 4} {i : Nat} {x : Nat} (d : decode cc pc = .ok (.aload_n k9, 1)) (hi : (k9 : Nat) = i) (j : Nat) (hj : lv[j]? = some (i, .ref x)) (k : EV l D nL A κ cl sl ad F n9 (pc + 1) lv (.ref x :: st)) : EV l D nL A κ cl sl ad F n9 pc lv st := by
  obtain ⟨p, e, R, s, m, args, below, meth, c, c0, s0, Q⟩ := κ
  obtain ⟨hx, hb, hml, hown, hts, hK, hfr, hlo, hrc, hrs, hAO, hAA, hNw, hA⟩ := C
  intro H locs ls hP hD hS hl
  exact lv_aload_n hx hb d hi (lv_at hl j hj) (k H locs ls hP hD hS hl)
theorem e_astore_n (C : CE D cs A cc nL own fr lo rc rs κ) {k9 : Fin 4} {i : Nat} {x : Nat} (lv2 : List (Nat × Value)) (d : decode cc pc = .ok (.astore_n k9, 1)) (hi : (k9 : Nat) = i) (hn : i < nL) (h2 : (i, Value.ref x) :: lv.filter (fun q => !(q.1 == i) && !(q.1 + 1 == i && q.2.category == 2)) = lv2) (k : EV l D nL A κ cl sl ad F n9 (pc + 1) lv2 st) : EV l D nL A κ cl sl ad F n9 pc lv (.ref x :: st) := by
  obtain ⟨p, e, R, s, m, args, below, meth, c, c0, s0, Q⟩ := κ
  obtain ⟨hx, hb, hml, hown, hts, hK, hfr, hlo, hrc, hrs, hAO, hAA, hNw, hA⟩ := C
  intro H locs ls hP hD hS hl
  exact lv_astore_n hx hb d hi hl hn h2 (fun ls hl => k H locs ls hP hD hS hl)
theorem e_istore (C : CE D cs A cc nL own fr lo rc rs κ) {i : Nat} {x : Int32} (lv2 : List (Nat × Value)) (d : decode cc pc = .ok (.istore i, 2)) (hn : i < nL) (h2 : (i, Value.int x) :: lv.filter (fun q => !(q.1 == i) && !(q.1 + 1 == i && q.2.category == 2)) = lv2) (k : EV l D nL A κ cl sl ad F n9 (pc + 2) lv2 st) : EV l D nL A κ cl sl ad F n9 pc lv (.int x :: st) := by
  obtain ⟨p, e, R, s, m, args, below, meth, c, c0, s0, Q⟩ := κ
  obtain ⟨hx, hb, hml, hown, hts, hK, hfr, hlo, hrc, hrs, hAO, hAA, hNw, hA⟩ := C
  intro H locs ls hP hD hS hl
  exact lv_istore hx hb d hl hn h2 (fun ls hl => k H locs ls hP hD hS hl)
theorem e_iinc (C : CE D cs A cc nL own fr lo rc rs κ) {i j : Nat} {n : Int} {x : Int32} (v : Int32) (lv2 : List (Nat × Value)) (d : decode cc pc = .ok (.iinc i n, 3)) (hj : lv[j]? = some (i, .int x)) (hv : x + Int32.ofInt n = v) (hn : i < nL) (h2 : (i, Value.int v) :: lv.filter (fun q => !(q.1 == i) && !(q.1 + 1 == i && q.2.category == 2)) = lv2) (k : EV l D nL A κ cl sl ad F n9 (pc + 3) lv2 st) : EV l D nL A κ cl sl ad F n9 pc lv st := by
  obtain ⟨p, e, R, s, m, args, below, meth, c, c0, s0, Q⟩ := κ
  obtain ⟨hx, hb, hml, hown, hts, hK, hfr, hlo, hrc, hrs, hAO, hAA, hNw, hA⟩ := C
  intro H locs ls hP hD hS hl
  exact lv_iinc hx hb d hl hj hv hn h2 (fun ls hl => k H locs ls hP hD hS hl)
theorem e_goto (C : CE D cs A cc nL own fr lo rc rs κ) {off : Int} (tgt : Nat) (d : decode cc pc = .ok (.goto off, 3)) (ht : (pc : Int) + off = (tgt : Int)) (k : EV l D nL A κ cl sl ad F n9 tgt lv st) : EV l D nL A κ cl sl ad F n9 pc lv st := by
  obtain ⟨p, e, R, s, m, args, below, meth, c, c0, s0, Q⟩ := κ
  obtain ⟨hx, hb, hml, hown, hts, hK, hfr, hlo, hrc, hrs, hAO, hAA, hNw, hA⟩ := C
  intro H locs ls hP hD hS hl
  exact lv_goto hx hb d ht (k H locs ls hP hD hS hl)
theorem e_dup (C : CE D cs A cc nL own fr lo rc rs κ) {v : Value} (d : decode cc pc = .ok (.dup, 1)) (h1 : v.category = 1) (k : EV l D nL A κ cl sl ad F n9 (pc + 1) lv (v :: v :: st)) : EV l D nL A κ cl sl ad F n9 pc lv (v :: st) := by
  obtain ⟨p, e, R, s, m, args, below, meth, c, c0, s0, Q⟩ := κ
  obtain ⟨hx, hb, hml, hown, hts, hK, hfr, hlo, hrc, hrs, hAO, hAA, hNw, hA⟩ := C
  intro H locs ls hP hD hS hl
  exact lv_dup hx hb d h1 (k H locs ls hP hD hS hl)
theorem e_iadd (C : CE D cs A cc nL own fr lo rc rs κ) {x y : Int32} (d : decode cc pc = .ok (.iadd, 1)) (k : EV l D nL A κ cl sl ad F n9 (pc + 1) lv (.int (x + y) :: st)) : EV l D nL A κ cl sl ad F n9 pc lv (.int y :: .int x :: st) := by
  obtain ⟨p, e, R, s, m, args, below, meth, c, c0, s0, Q⟩ := κ
  obtain ⟨hx, hb, hml, hown, hts, hK, hfr, hlo, hrc, hrs, hAO, hAA, hNw, hA⟩ := C
  intro H locs ls hP hD hS hl
  exact lv_iadd hx hb d (k H locs ls hP hD hS hl)
theorem e_icmp_ge (C : CE D cs A cc nL own fr lo rc rs κ) {x y : Int32} {off : Int} (tgt : Nat) (d : decode cc pc = .ok (.if_icmp .ge off, 3)) (ht : (pc : Int) + off = (tgt : Int)) (kt : y ≤ x → EV l D nL A κ cl sl ad F n9 tgt lv st) (kf : ¬ (y ≤ x) → EV l D nL A κ cl sl ad F n9 (pc + 3) lv st) : EV l D nL A κ cl sl ad F n9 pc lv (.int y :: .int x :: st) := by
  obtain ⟨p, e, R, s, m, args, below, meth, c, c0, s0, Q⟩ := κ
  obtain ⟨hx, hb, hml, hown, hts, hK, hfr, hlo, hrc, hrs, hAO, hAA, hNw, hA⟩ := C
  intro H locs ls hP hD hS hl
  exact lv_icmp_ge hx hb d ht (fun h => kt (by first | exact h | simpa using h) H locs ls hP hD hS hl) (fun h => kf (by first | exact h | simpa using h) H locs ls hP hD hS hl)
theorem e_lconst (C : CE D cs A cc nL own fr lo rc rs κ) {n : Fin 2} (v : Int64) (d : decode cc pc = .ok (.lconst n, 1)) (hv : Int64.ofNat (n : Nat) = v) (k : EV l D nL A κ cl sl ad F n9 (pc + 1) lv (.long v :: st)) : EV l D nL A κ cl sl ad F n9 pc lv st := by
  obtain ⟨p, e, R, s, m, args, below, meth, c, c0, s0, Q⟩ := κ
  obtain ⟨hx, hb, hml, hown, hts, hK, hfr, hlo, hrc, hrs, hAO, hAA, hNw, hA⟩ := C
  intro H locs ls hP hD hS hl
  exact lv_lconst hx hb d hv (k H locs ls hP hD hS hl)
theorem e_aload (C : CE D cs A cc nL own fr lo rc rs κ) {i : Nat} {x : Nat} (d : decode cc pc = .ok (.aload i, 2)) (j : Nat) (hj : lv[j]? = some (i, .ref x)) (k : EV l D nL A κ cl sl ad F n9 (pc + 2) lv (.ref x :: st)) : EV l D nL A κ cl sl ad F n9 pc lv st := by
  obtain ⟨p, e, R, s, m, args, below, meth, c, c0, s0, Q⟩ := κ
  obtain ⟨hx, hb, hml, hown, hts, hK, hfr, hlo, hrc, hrs, hAO, hAA, hNw, hA⟩ := C
  intro H locs ls hP hD hS hl
  exact lv_aload hx hb d (lv_at hl j hj) (k H locs ls hP hD hS hl)
theorem e_lv {lv2 : List (Nat × Value)} (ks : List Nat) (h : lv_pick lv ks = lv2) (k : EV l D nL A κ cl sl ad F n9 pc lv2 st) : EV l D nL A κ cl sl ad F n9 pc lv st := by
  obtain ⟨p, e, R, s, m, args, below, meth, c, c0, s0, Q⟩ := κ
  exact fun H locs ls hP hD hS hl => k H locs ls hP hD hS (lv_sub hl ks h)
theorem e_oinit (C : CE D cs A cc nL own fr lo rc rs κ) {x idx : Nat} (w : Cond.methodLink own idx objectInit ∈ TT) (d : decode cc pc = .ok (.invokespecial idx, 3)) (hfr1 : 1 ≤ fr) (hlo1 : (st.map fun v => v.category).sum + 12 ≤ lo) (k : EV l D nL A κ cl sl ad F n9 (pc + 3) lv st) : EV l D nL A κ cl sl ad F n9 pc lv (.ref x :: st) := by
  obtain ⟨p, e, R, s, m, args, below, meth, c, c0, s0, Q⟩ := κ
  obtain ⟨hx, hb, hml, hown, hts, hK, hfr, hlo, hrc, hrs, hAO, hAA, hNw, hA⟩ := C
  intro H locs ls hP hD hS hl
  refine W.objInit hx hb hown (hts _ w) (hts _ im_oinit) (hts _ co_oinit) rfl (by rw [hml]; exact hl.1) rfl d (by rw [hfr]; exact hfr1) (by rw [hlo]; show 2 * 0 + _ + 12 ≤ _; omega) ?_
  exact k H locs ls hP hD hS hl
theorem e_newa (C : CE D cs A cc nL own fr lo rc rs κ) {atype : ArrayType} {ty : FieldType} (w : Cond.arrayClass ty ∈ TT) (hty : newarray.typeOf atype = ty) (t0 : Nat) {cA : ClassId} (ht : (tyC cs)[t0]? = some (cA, ty)) (hra : ∀ U, va_RA U cA ty → U.vm.findClass ("[" ++ ty.toString) = some cA) {i : Int32} {N : Nat} {a0 : vp_A} (ha : ∀ c : ClassId, vp_cell c a0 = arrV c N (fun _ => defaultValue ty)) (hi : ¬ i < 0) (hN : i.toNatClampNeg = N) (hbytes : N * componentBytes ty ≤ 536870912) (hc1 : cl + 1 ≤ rc) (hs1 : sl + N ≤ rs) (d : decode cc pc = .ok (.newarray atype, 2))
    (k : ∀ q, EV l D nL A κ (cl + 1) (sl + N) (uN ad n9 q) (uN F n9 (.inl (cA, a0))) (n9 + 1) (pc + 2) lv (.ref q :: st)) : EV l D nL A κ cl sl ad F n9 pc lv (.int i :: st) := by
  obtain ⟨p, e, R, s, m, args, below, meth, c, c0, s0, Q⟩ := κ
  obtain ⟨hx, hb, hml, hown, hts, hK, hfr, hlo, hrc, hrs, hAO, hAA, hNw, hA⟩ := C
  intro H locs ls hP hD hS hl
  refine va_newa hx hb (by rw [hty]; exact hts _ w) hty hK hP hD hS hA ha hi hN hbytes (by rw [hrc]; exact hc1) (by rw [hrs]; exact hs1) d (fun q cB H1 hK1 hP1 hD1 hS1 => ?_)
  have e1 : cB = cA := by
    have g1 := (hK1.2 ((tyC cs).length) (cB, ty) (by rw [List.getElem?_append_right (Nat.le_refl _), Nat.sub_self]; rfl)).2
    have g2 := (hK.2 t0 _ ht).2
    have g3 := hra s g2
    have g4 : s.vm.findClass ("[" ++ ty.toString) = some cB := by
      cases atype <;> (subst hty; exact g1)
    exact Option.some.inj (g4.symm.trans g3)
  subst e1
  rw [aW_push] at hP1 hD1
  exact k q H1 locs ls hP1 hD1 hS1 hl
theorem e_new (C : CE D cs A cc nL own fr lo rc rs κ) {Cn : String} {T : u_T} {N ci index : Nat} (hin : ∀ w ∈ u_ws Cn T N, w ∈ TT) (ty : Nat → FieldType) (hty : ∀ k, k < N → parseFieldDescriptor (T k).2.2.1 = some (ty k)) (w1 : Cond.classLink own index Cn ∈ TT) (w2 : Cond.instantiable Cn N ∈ TT) (w3 : Cond.initialized Cn ∈ TT) (hc : vwCl[ci]? = some (Cn, T, N)) {fs : List Value} (hfs : ∀ j, j < N → defaultValue (ty j) = vp_V fs j) (hc1 : cl + 1 ≤ rc) (hs1 : sl + N ≤ rs) (d : decode cc pc = .ok (.new index, 3))
    (k : ∀ q, EV l D nL A κ (cl + 1) (sl + N) (uN ad n9 q) (uN F n9 (.inr (ci, fs))) (n9 + 1) (pc + 3) lv (.ref q :: st)) : EV l D nL A κ cl sl ad F n9 pc lv st := by
  obtain ⟨p, e, R, s, m, args, below, meth, c, c0, s0, Q⟩ := κ
  obtain ⟨hx, hb, hml, hown, hts, hK, hfr, hlo, hrc, hrs, hAO, hAA, hNw, hA⟩ := C
  intro H locs ls hP hD hS hl
  refine va_new hx hb hts hin ty hty hown (hts _ w1) (hts _ w2) (hts _ w3) hK hP hD hS hA hc hfs (by rw [hrc]; exact hc1) (by rw [hrs]; exact hs1) d (fun q H1 hP1 hD1 hS1 => ?_)
  rw [aW_push] at hP1 hD1
  exact k q H1 locs ls hP1 hD1 hS1 hl
theorem e_newq (C : CE D cs A cc nL own fr lo rc rs κ) {index : Nat} (w1 : Cond.classLink own index RX4 ∈ TT) {i : Int32} {N : Nat} (hi : ¬ i < 0) (hN : i.toNatClampNeg = N) (hbytes : N * 4 ≤ 536870912) (hc1 : cl + 1 ≤ rc) (hs1 : sl + N ≤ rs) (d : decode cc pc = .ok (.anewarray index, 3))
    (k : ∀ q, EV l D nL A κ (cl + 1) (sl + N) (uN ad n9 q) (uN F n9 (.inl (cs 5, N, .inr (.inr (.inr (.inr (fun _ => none))))))) (n9 + 1) (pc + 3) lv (.ref q :: st)) : EV l D nL A κ cl sl ad F n9 pc lv (.int i :: st) := by
  obtain ⟨p, e, R, s, m, args, below, meth, c, c0, s0, Q⟩ := κ
  obtain ⟨hx, hb, hml, hown, hts, hK, hfr, hlo, hrc, hrs, hAO, hAA, hNw, hA⟩ := C
  intro H locs ls hP hD hS hl
  refine va_newq hx hb hown (hts _ w1) hAO hK hP hD hS hA hi hN hbytes (by rw [hrc]; exact hc1) (by rw [hrs]; exact hs1) d (fun q cB H1 hK1 hP1 hD1 hS1 => ?_)
  have e1 : cB = cs 5 := by
    obtain ⟨kA, comp, -, -, -, g1⟩ := (hK1.2 6 (cB, .object RX4) rfl).2
    obtain ⟨kA2, comp2, -, -, -, g2⟩ := (hK.2 5 (cs 5, .object RX4) rfl).2
    exact Option.some.inj (g1.symm.trans g2)
  subst e1
  rw [aW_push] at hP1 hD1
  exact k q H1 locs ls hP1 hD1 hS1 hl
theorem e_get (C : CE D cs A cc nL own fr lo rc rs κ) {ref Cn : String} {T : u_T} {N ci index x id : Nat} (hid : id < n9) (hin : ∀ w ∈ u_ws Cn T N, w ∈ TT) {fs : List Value} (hx9 : x = ad id) (he : F id = .inr (ci, fs)) (hc : vwCl[ci]? = some (Cn, T, N)) (k9 : Nat) (hk9 : k9 < N) (href : (T k9).1 = ref) (w : Cond.fieldLink own index ref (T k9).2.1 (T k9).2.2.1 ∈ TT) {v : Value} (hv : fs[k9]? = some v) (d : decode cc pc = .ok (.getfield index, 3)) (k : EV l D nL A κ cl sl ad F n9 (pc + 3) lv (v :: st)) : EV l D nL A κ cl sl ad F n9 pc lv (.ref x :: st) := by
  obtain ⟨p, e, R, s, m, args, below, meth, c, c0, s0, Q⟩ := κ
  obtain ⟨hx, hb, hml, hown, hts, hK, hfr, hlo, hrc, hrs, hAO, hAA, hNw, hA⟩ := C
  intro H locs ls hP hD hS hl
  subst hx9
  exact va_get hx hb hts hin hown hK hP id (by rw [aW_get hid, he]) hc k9 hk9 (hts _ w) (fun x h9 => by rw [href] at h9; exact h9) hv d (k H locs ls hP hD hS hl)
theorem e_put (C : CE D cs A cc nL own fr lo rc rs κ) {ref Cn : String} {T : u_T} {N ci index x id : Nat} (hid : id < n9) (hin : ∀ w ∈ u_ws Cn T N, w ∈ TT) {ty0 : Nat → FieldType} (hty : ∀ k, k < N → parseFieldDescriptor (T k).2.2.1 = some (ty0 k)) (hnm : ∀ a, a < N → ∀ b, b < N → a ≠ b → (T a).2.1 ≠ (T b).2.1) {fs : List Value} (hx9 : x = ad id) (he : F id = .inr (ci, fs)) (hc : vwCl[ci]? = some (Cn, T, N)) (k9 : Nat) (hk9 : k9 < N) (href : (T k9).1 = ref) (w : Cond.fieldLink own index ref (T k9).2.1 (T k9).2.2.1 ∈ TT) (hfin : (T k9).2.2.2 = false) {v : Value} (hn : narrow (ty0 k9) v = v) (hfit : fits (ty0 k9) v = true) (hl9 : k9 < fs.length) (d : decode cc pc = .ok (.putfield index, 3))
    (k : EV l D nL A κ cl sl ad (uN F id (.inr (ci, fs.set k9 v))) n9 (pc + 3) lv st) : EV l D nL A κ cl sl ad F n9 pc lv (v :: .ref x :: st) := by
  obtain ⟨p, e, R, s, m, args, below, meth, c, c0, s0, Q⟩ := κ
  obtain ⟨hx, hb, hml, hown, hts, hK, hfr, hlo, hrc, hrs, hAO, hAA, hNw, hA⟩ := C
  intro H locs ls hP hD hS hl
  subst hx9
  refine va_put hx hb hts hin ty0 hty hnm hown hK hP hD hS id (by rw [aW_get hid, he]) hc k9 hk9 (hts _ w) (fun x h9 => by rw [href] at h9; exact h9) hfin (hty k9 hk9) hn hfit hl9 d (fun H1 locs1 hP1 hD1 hS1 => ?_)
  rw [aW_set hid] at hP1 hD1
  exact k H1 locs1 ls hP1 hD1 hS1 hl
theorem e_putF (C : CE D cs A cc nL own fr lo rc rs κ) (I : CI κ "<init>") {ref Cn : String} {T : u_T} {N ci index x id : Nat} (hid : id < n9) (hin : ∀ w ∈ u_ws Cn T N, w ∈ TT) {ty0 : Nat → FieldType} (hty : ∀ k, k < N → parseFieldDescriptor (T k).2.2.1 = some (ty0 k)) (hnm : ∀ a, a < N → ∀ b, b < N → a ≠ b → (T a).2.1 ≠ (T b).2.1) {fs : List Value} (hx9 : x = ad id) (he : F id = .inr (ci, fs)) (hc : vwCl[ci]? = some (Cn, T, N)) (k9 : Nat) (hk9 : k9 < N) (href : (T k9).1 = ref) (w : Cond.fieldLink own index ref (T k9).2.1 (T k9).2.2.1 ∈ TT) (hfin : (T k9).2.2.2 = true) (hde : (T k9).1 = own) {v : Value} (hn : narrow (ty0 k9) v = v) (hfit : fits (ty0 k9) v = true) (hl9 : k9 < fs.length) (d : decode cc pc = .ok (.putfield index, 3))
    (k : EV l D nL A κ cl sl ad (uN F id (.inr (ci, fs.set k9 v))) n9 (pc + 3) lv st) : EV l D nL A κ cl sl ad F n9 pc lv (v :: .ref x :: st) := by
  obtain ⟨p, e, R, s, m, args, below, meth, c, c0, s0, Q⟩ := κ
  obtain ⟨hx, hb, hml, hown, hts, hK, hfr, hlo, hrc, hrs, hAO, hAA, hNw, hA⟩ := C
  intro H locs ls hP hD hS hl
  subst hx9
  refine va_putF hx hb hts hin ty0 hty hnm hown hK hP hD hS id (by rw [aW_get hid, he]) hc k9 hk9 (hts _ w) (fun x h9 => by rw [href] at h9; exact h9) hfin I hde (hty k9 hk9) hn hfit hl9 d (fun H1 locs1 hP1 hD1 hS1 => ?_)
  rw [aW_set hid] at hP1 hD1
  exact k H1 locs1 ls hP1 hD1 hS1 hl
theorem e_iast (C : CE D cs A cc nL own fr lo rc rs κ) {x id N : Nat} {f : Nat → Int32} (hid : id < n9) (hx9 : x = ad id) (he : F id = .inl (cs 0, N, .inl f)) {i y : Int32} (hin : vp_in i N) {k9 : Nat} (hk9 : i.toNatClampNeg = k9) (d : decode cc pc = .ok (.iastore, 1)) (k : EV l D nL A κ cl sl ad (uN F id (.inl (cs 0, N, .inl (upd f k9 y)))) n9 (pc + 1) lv st) : EV l D nL A κ cl sl ad F n9 pc lv (.int y :: .int i :: .ref x :: st) := by
  obtain ⟨p, e, R, s, m, args, below, meth, c, c0, s0, Q⟩ := κ
  obtain ⟨hx, hb, hml, hown, hts, hK, hfr, hlo, hrc, hrs, hAO, hAA, hNw, hA⟩ := C
  intro H locs ls hP hD hS hl
  subst hx9
  subst hk9
  refine va_iast hx hb hK hP hD hS id 0 (by rw [aW_get hid, he]) rfl hin d (fun H1 locs1 hP1 hD1 hS1 => ?_)
  rw [aW_set hid] at hP1 hD1
  exact k H1 locs1 ls hP1 hD1 hS1 hl
theorem e_astq (C : CE D cs A cc nL own fr lo rc rs κ) {x id y idk N : Nat} {f : Nat → Option Nat} {vs : List Value} (hid : id < n9) (hx9 : x = ad id) (he : F id = .inl (cs 5, N, .inr (.inr (.inr (.inr f))))) (hidk : idk < n9) (hy9 : y = ad idk) (hk9 : F idk = .inr (4, vs)) {i : Int32} (hin : vp_in i N) {j9 : Nat} (hj9 : i.toNatClampNeg = j9) (d : decode cc pc = .ok (.aastore, 1)) (k : EV l D nL A κ cl sl ad (uN F id (.inl (cs 5, N, .inr (.inr (.inr (.inr (va_up f j9 (some y)))))))) n9 (pc + 1) lv st) : EV l D nL A κ cl sl ad F n9 pc lv (.ref y :: .int i :: .ref x :: st) := by
  obtain ⟨p, e, R, s, m, args, below, meth, c, c0, s0, Q⟩ := κ
  obtain ⟨hx, hb, hml, hown, hts, hK, hfr, hlo, hrc, hrs, hAO, hAA, hNw, hA⟩ := C
  intro H locs ls hP hD hS hl
  subst hx9
  subst hy9
  subst hj9
  refine va_astq hx hb hK hP hD hS id 5 idk 4 (r := (RX4, TX4, 6)) (by rw [aW_get hid, he]) rfl (by rw [aW_get hidk, hk9]) rfl hin d (fun H1 locs1 hP1 hD1 hS1 => ?_)
  rw [aW_set hid] at hP1 hD1
  exact k H1 locs1 ls hP1 hD1 hS1 hl
theorem e_alen (C : CE D cs A cc nL own fr lo rc rs κ) {x id N : Nat} {f : Nat → Int32} (hid : id < n9) (hx9 : x = ad id) (he : F id = .inl (cs 0, N, .inl f)) {v : Int32} (hv : Int32.ofNat N = v) (d : decode cc pc = .ok (.arraylength, 1)) (k : EV l D nL A κ cl sl ad F n9 (pc + 1) lv (.int v :: st)) : EV l D nL A κ cl sl ad F n9 pc lv (.ref x :: st) := by
  obtain ⟨p, e, R, s, m, args, below, meth, c, c0, s0, Q⟩ := κ
  obtain ⟨hx, hb, hml, hown, hts, hK, hfr, hlo, hrc, hrs, hAO, hAA, hNw, hA⟩ := C
  intro H locs ls hP hD hS hl
  subst hx9
  exact va_alen hx hb hK hP id 0 (by rw [aW_get hid, he]) rfl hv d (k H locs ls hP hD hS hl)
theorem aW_app {ad ad2 : Nat → Nat} {F F2 : Nat → va_E} {n m : Nat} : aW ad F n ++ aW ad2 F2 m = aW (cN ad n ad2) (cN F n F2) (n + m) := by
  apply List.ext_getElem?
  intro j
  have hlen : (aW ad F n).length = n := by simp [aW]
  rcases Nat.lt_or_ge j n with q | q
  · rw [List.getElem?_append_left (by rw [hlen]; exact q), aW_get q, aW_get (by omega)]
    unfold cN; rw [if_pos q, if_pos q]
  · rw [List.getElem?_append_right (by rw [hlen]; exact q), hlen]
    rcases Nat.lt_or_ge j (n + m) with q2 | q2
    · rw [aW_get (by omega), aW_get q2]
      unfold cN; rw [if_neg (by omega), if_neg (by omega)]
    · rw [aW_none (by omega), aW_none q2]
theorem aW_D {ad : Nat → Nat} {F G : Nat → va_E} {n : Nat} (h : va_D A (aW ad F n)) {m : Nat} (hm : m ≤ n) : va_D A (aW ad G m) := by
  refine ⟨fun i j p q hp hq e => ?_, fun k q hk => ?_⟩
  · obtain ⟨h1, rfl⟩ := aW_inv hp
    obtain ⟨h2, rfl⟩ := aW_inv hq
    exact h.1 i j _ _ (aW_get (by omega)) (aW_get (by omega)) e
  · obtain ⟨h1, rfl⟩ := aW_inv hk
    exact h.2 k (ad k, F k) (aW_get (by omega))
theorem aW_join {u : Nat → Nat} {G : Nat → va_E} {n2 : Nat} {H H1 : Heap} (hP : va_P D vwCl (aW ad F (n9 + 1)) H) (hD : va_D A (aW ad F (n9 + 1))) {x : Nat} (hx : x = ad n9) (hk : ∀ q : Nat, q < H.size → ¬ oA (fun _ => x) 1 H.size q → H1[q]? = H[q]?) (hP1 : va_P D vwCl (aW u G n2) H1) (hD1 : va_D (oA (fun _ => x) 1 H.size) (aW u G n2)) (hA9 : ∀ q, oA (fun _ => x) 1 H.size q → A q) : va_P D vwCl (aW (cN ad n9 u) (cN F n9 G) (n9 + n2)) H1 ∧ va_D A (aW (cN ad n9 u) (cN F n9 G) (n9 + n2)) := by
  have apart : ∀ k, k < n9 → ad k < H.size ∧ ¬ oA (fun _ => x) 1 H.size (ad k) := fun k hk9 => by
    have hl := (hP k _ (aW_get (by omega))).lt
    refine ⟨hl, fun h => ?_⟩
    rcases h with ⟨i, -, h⟩ | h
    · have := hD.1 k n9 _ _ (aW_get (by omega)) (aW_get (by omega)) (h.trans hx)
      omega
    · exact absurd hl (Nat.not_lt.mpr h)
  rw [← aW_app]
  refine ⟨va_P.app (fun k q hq => ?_) hP1, va_D.app (aW_D hD (by omega)) ⟨hD1.1, fun k q h => hA9 _ (hD1.2 k q h)⟩ (fun i j a b ha hb hab => ?_)⟩
  · obtain ⟨h1, rfl⟩ := aW_inv hq
    obtain ⟨g1, g2⟩ := apart k h1
    exact (hP k _ (aW_get (by omega))).kept (hk _ g1 g2)
  · obtain ⟨h1, rfl⟩ := aW_inv ha
    exact (apart i h1).2 (by have := hD1.2 j b hb; rw [← hab] at this; exact this)
theorem aW_upd {Rg : Nat → Prop} {F2 : Nat → va_E} {H H1 : Heap} (hP : va_P D vwCl (aW ad F n9) H) (hk : ∀ q : Nat, q < H.size → ¬ Rg q → H1[q]? = H[q]?) (h : ∀ k, k < n9 → (¬ Rg (ad k) ∧ F2 k = F k) ∨ va_at D vwCl (ad k, F2 k) H1) : va_P D vwCl (aW ad F2 n9) H1 := by
  intro k q hq
  obtain ⟨h1, rfl⟩ := aW_inv hq
  rcases h k h1 with ⟨g1, g2⟩ | g
  · rw [g2]
    have := hP k _ (aW_get h1)
    exact this.kept (hk _ this.lt g1)
  · exact g
theorem e_mna (C : CE D cs A cc nL own fr lo rc rs κ) {index : Nat} (w1 : Cond.classLink own index "[[I" ∈ TT) (hc1 : cl + 9 ≤ rc) (hs1 : sl + 40 ≤ rs) (d : decode cc pc = .ok (.multianewarray index 2, 4))
    (k : ∀ q r, EV l D nL A κ (cl + 9) (sl + 40) (cN (uN ad n9 q) (n9 + 1) r) (cN (uN F n9 (.inl (cs 4, 8, .inr (.inr (.inr (.inr (fun i => if i < 8 then some (r i) else none))))))) (n9 + 1) (fun _ => .inl (cs 0, 4, .inl (fun _ => 0)))) (n9 + 1 + 8) (pc + 4) lv (.ref q :: st)) : EV l D nL A κ cl sl ad F n9 pc lv (.int (nI 4) :: .int (nI 8) :: st) := by
  obtain ⟨p, e, R, s, m, args, below, meth, c, c0, s0, Q⟩ := κ
  obtain ⟨hx, hb, hml, hown, hts, hK, hfr, hlo, hrc, hrs, hAO, hAA, hNw, hA⟩ := C
  intro H locs ls hP hD hS hl
  have h0 : aW ad F n9 = aW ad F n9 ++ va_pl [] (fun _ => .inl (cs 0, 4, .inl (fun _ => 0))) := (List.append_nil _).symm
  rw [h0] at hP hD
  refine va_mna (ty := .int) (cy := cs 0) (z := (4, .inl (fun _ => 0))) (N' := 8) (K' := 4) hx hb hown (by have := hts _ w1; exact this) hAA (hts _ ac_int) (hK.2 0 (cs 0, .int) rfl).2 hK hP hD hS hA (by decide) (by decide) (by decide) (by decide) (by decide) (by decide) (by decide) rfl rfl (by rw [hrc]; omega) (by rw [hrs]; omega) (fun c9 => (arrV_new c9 4 (.int 0)).symm) d (fun q r cB H1 hri hrn hK1 hP1 hD1 hS1 => ?_)
  have e1 : cB = cs 4 := by
    have g1 := (hK1.2 6 (cB, .array .int) rfl).2
    have g2 := (hK.2 4 (cs 4, .array .int) rfl).2
    exact Option.some.inj (g1.symm.trans g2)
  subst e1
  have e2 : va_pl ([] ++ (List.range 8).map r) (vr_up (fun _ => .inl (cs 0, 4, .inl (fun _ => 0))) ((List.range 8).map r) (.inl (cs 0, (4, .inl (fun _ => 0))))) = aW r (fun _ => .inl (cs 0, 4, .inl (fun _ => 0))) 8 := by
    unfold va_pl aW
    rw [List.nil_append, List.map_map]
    refine List.map_congr_left (fun a ha => ?_)
    show (r a, vr_up _ _ _ (r a)) = _
    rw [vr_up_in (List.mem_map.mpr ⟨a, ha, rfl⟩)]
  rw [e2, aW_push, aW_app] at hP1 hD1
  exact k q r H1 locs ls hP1 hD1 hS1 hl
theorem kp_fb {sz : Nat} {As : List Value} : FrameBlind (va_Pc As (KP D cs ad F n9 sz)) := fun a U g mk q => by
  obtain ⟨q0, q1, qP, qD, qK, q2, q3, q4⟩ := q
  exact ⟨q0, q1, qP, qD, va_K.moved (u := U) (U := U.calling g mk a) (Vm.Alike.refl U.vm) qK, va_AO.moved (u := U) (U := U.calling g mk a) (Vm.Alike.refl U.vm) q2, va_AOA.moved (u := U) (U := U.calling g mk a) (Vm.Alike.refl U.vm) q3, fun w hw => va_Nw.same (u := U) (U := U.calling g mk a) (xk_ot (eNw_k w hw)) rfl (q4 w hw)⟩
theorem e_callI (C : CE D cs A cc nL own fr lo rc rs κ) {y : MethodName} {bts : ByteArray} {n idx mc ms x : Nat} {rm : Room} {e0 : va_E} {F2 : (Nat → Nat) → Nat → va_E} {n2 : Nat} {rest : List Value}
    (hM : ∀ b sz, Met l y (.code y bts n none :: TT) rm (va_Pc [.ref b] (KP D cs (fun _ => b) (fun _ => e0) 1 sz)) (va_Qv (fun u : Nat → Nat => u 0 = b) (KQ D (oA (fun _ => b) 1 sz) F2 n2) (oA (fun _ => b) 1 sz)) mc ms (oA (fun _ => b) 1 sz))
    (w0 : Cond.code y bts n none ∈ TT) (w1 : Cond.initialized y.cls ∈ TT) (w2 : Cond.methodLink own idx y ∈ TT) (w3 : Cond.instanceMethod y ∈ TT) (hy : y.name = "<init>") (hrm : rm.cells = mc ∧ rm.slots = ms) (hyd : y.cls ≠ "java/lang/invoke/MethodHandle" ∧ y.cls ≠ "java/lang/invoke/VarHandle" ∧ (parseMethodDescriptor y.desc).map (fun d => d.parameters.length) = some 0) (hR : rm.frames + 1 ≤ fr ∧ 8 + (n + 11) + rm.locals ≤ lo) (he : F n9 = e0) (hx9 : x = ad n9) (hW8 : (rest.map fun v => v.category).sum ≤ 8) (hc1 : cl + mc ≤ rc) (hs1 : sl + ms ≤ rs) (d : decode cc pc = .ok (.invokespecial idx, 3))
    (k : ∀ u : Nat → Nat, u 0 = x → EV l D nL A κ (cl + mc) (sl + ms) (cN ad n9 u) (cN F n9 (F2 u)) (n9 + n2) (pc + 3) lv rest) : EV l D nL A κ cl sl ad F (n9 + 1) pc lv (.ref x :: rest) := by
  obtain ⟨p, e, R, s, m, args, below, meth, c, c0, s0, Q⟩ := κ
  obtain ⟨hx, hb, hml, hown, hts, hK, hfr, hlo, hrc, hrs, hAO, hAA, hNw, hA⟩ := C
  intro H locs ls hP hD hS hl
  have hxA : A x := by rw [hx9]; exact hD.2 n9 _ (aW_get (Nat.lt_succ_self _))
  have hAx : ∀ q, oA (fun _ => x) 1 H.size q → A q := fun q h => by
    rcases h with ⟨i, -, h⟩ | h
    · rw [h]; exact hxA
    · exact hA q (Nat.le_trans hS.1 h)
  have hP0 : va_P D vwCl (aW (fun _ => x) (fun _ => e0) 1) H := fun k q hq => by
    obtain ⟨h1, rfl⟩ := aW_inv hq
    have := hP n9 _ (aW_get (Nat.lt_succ_self _))
    rw [he, ← hx9] at this
    exact this
  have hD0 : va_D (oA (fun _ => x) 1 H.size) (aW (fun _ => x) (fun _ => e0) 1) := ⟨fun i j p q hp hq _ => by
    have h1 := (aW_inv hp).1
    have h2 := (aW_inv hq).1
    omega, fun k q hq => by
    obtain ⟨h1, rfl⟩ := aW_inv hq
    exact Or.inl ⟨0, by omega, rfl⟩⟩
  refine va_callv (va_runI (As := []) (rest := rest) ⟨hx, hb, hml, hown, hts⟩ (hM x H.size) (cwI 0 hts (tt_in (tt_c w0 fun _ h => h)) rfl hrm.1 hrm.2 (hts _ w1) (hts _ w2) (hts _ w3) hy hyd ⟨by rw [hfr]; exact hR.1, by rw [hlo]; exact hR.2⟩) ⟨kp_fb, fun U hU hW => ⟨rfl, by rw [hU], by rw [hU]; exact hP0, hD0, va_K.moved hW.alike hK, va_AO.moved hW.alike hAO, va_AOA.moved hW.alike hAA, fun w hw => xk_warm hW (eNw_k w hw) (hNw w hw)⟩⟩ rfl rfl hl.1 rfl (lv_room hW8) d ⟨by rw [hrc]; exact hc1, by rw [hrs]; exact hs1⟩) hS (fun q _ h => hAx q h) hAx (fun u t H1 locs1 ht hvm hw hB hz1 hk1 hS1 => ?_)
  obtain ⟨hP1, hD1⟩ := hB
  rw [ht] at hP1
  obtain ⟨hP2, hD2⟩ := aW_join hP hD hx9 hk1 hP1 hD1 hAx
  exact k u hw H1 locs1 ls hP2 hD2 hS1 hl
theorem e_callIN (C : CE D cs A cc nL own fr lo rc rs κ) {y : MethodName} {bts : ByteArray} {n idx mc ms x : Nat} {rm : Room} {e0 : va_E} {F2 : (Nat → Nat) → Nat → va_E} {n2 : Nat} {rest : List Value}
    (hM : ∀ b sz, Met l y (.code y bts n none :: TT) rm (va_Pc [.ref b] (KP D cs (fun _ => b) (fun _ => e0) 1 sz)) (va_Qv (fun u : Nat → Nat => u 0 = b) (KQ D (oA (fun _ => b) 1 sz) F2 n2) (oA (fun _ => b) 1 sz)) mc ms (oA (fun _ => b) 1 sz))
    (w0 : Cond.code y bts n none ∈ TT) (w1 : Cond.initialized y.cls ∈ TT) (w2 : Cond.methodLinkNest own idx y RX7 ∈ eNw) (w3 : Cond.instanceMethod y ∈ TT) (hy : y.name = "<init>") (hrm : rm.cells = mc ∧ rm.slots = ms) (hyd : y.cls ≠ "java/lang/invoke/MethodHandle" ∧ y.cls ≠ "java/lang/invoke/VarHandle" ∧ (parseMethodDescriptor y.desc).map (fun d => d.parameters.length) = some 0) (hR : rm.frames + 1 ≤ fr ∧ 8 + (n + 11) + rm.locals ≤ lo) (he : F n9 = e0) (hx9 : x = ad n9) (hW8 : (rest.map fun v => v.category).sum ≤ 8) (hc1 : cl + mc ≤ rc) (hs1 : sl + ms ≤ rs) (d : decode cc pc = .ok (.invokespecial idx, 3))
    (k : ∀ u : Nat → Nat, u 0 = x → EV l D nL A κ (cl + mc) (sl + ms) (cN ad n9 u) (cN F n9 (F2 u)) (n9 + n2) (pc + 3) lv rest) : EV l D nL A κ cl sl ad F (n9 + 1) pc lv (.ref x :: rest) := by
  obtain ⟨p, e, R, s, m, args, below, meth, c, c0, s0, Q⟩ := κ
  obtain ⟨hx, hb, hml, hown, hts, hK, hfr, hlo, hrc, hrs, hAO, hAA, hNw, hA⟩ := C
  intro H locs ls hP hD hS hl
  have hxA : A x := by rw [hx9]; exact hD.2 n9 _ (aW_get (Nat.lt_succ_self _))
  have hAx : ∀ q, oA (fun _ => x) 1 H.size q → A q := fun q h => by
    rcases h with ⟨i, -, h⟩ | h
    · rw [h]; exact hxA
    · exact hA q (Nat.le_trans hS.1 h)
  have hP0 : va_P D vwCl (aW (fun _ => x) (fun _ => e0) 1) H := fun k q hq => by
    obtain ⟨h1, rfl⟩ := aW_inv hq
    have := hP n9 _ (aW_get (Nat.lt_succ_self _))
    rw [he, ← hx9] at this
    exact this
  have hD0 : va_D (oA (fun _ => x) 1 H.size) (aW (fun _ => x) (fun _ => e0) 1) := ⟨fun i j p q hp hq _ => by
    have h1 := (aW_inv hp).1
    have h2 := (aW_inv hq).1
    omega, fun k q hq => by
    obtain ⟨h1, rfl⟩ := aW_inv hq
    exact Or.inl ⟨0, by omega, rfl⟩⟩
  refine va_callv (va_runIN (As := []) (rest := rest) ⟨hx, hb, hml, hown, hts⟩ (hM x H.size) ⟨va_cnB 0 hts (tt_in (tt_c w0 fun _ h => h)) rfl hrm.1 hrm.2 (hNw _ w2) (hts _ w1) hyd ⟨by rw [hfr]; exact hR.1, by rw [hlo]; exact hR.2⟩, hy, hts _ w3⟩ ⟨kp_fb, fun U hU hW => ⟨rfl, by rw [hU], by rw [hU]; exact hP0, hD0, va_K.moved hW.alike hK, va_AO.moved hW.alike hAO, va_AOA.moved hW.alike hAA, fun w hw => xk_warm hW (eNw_k w hw) (hNw w hw)⟩⟩ rfl rfl hl.1 rfl (lv_room hW8) d ⟨by rw [hrc]; exact hc1, by rw [hrs]; exact hs1⟩) hS (fun q _ h => hAx q h) hAx (fun u t H1 locs1 ht hvm hw hB hz1 hk1 hS1 => ?_)
  obtain ⟨hP1, hD1⟩ := hB
  rw [ht] at hP1
  obtain ⟨hP2, hD2⟩ := aW_join hP hD hx9 hk1 hP1 hD1 hAx
  exact k u hw H1 locs1 ls hP2 hD2 hS1 hl
theorem e_wd {G : Nat → va_E} (h : ∀ i, i < n9 → F i = G i) (k : EV l D nL A κ cl sl ad G n9 pc lv st) : EV l D nL A κ cl sl ad F n9 pc lv st := by
  obtain ⟨p, e, R, s, m, args, below, meth, c, c0, s0, Q⟩ := κ
  intro H locs ls hP hD hS hl
  rw [aW_cg (ad2 := ad) (G := G) (fun i hi => ⟨rfl, h i hi⟩)] at hP hD
  exact k H locs ls hP hD hS hl
theorem e_sub {x : Nat} {n1 : Nat} {adp : Nat → Nat} {Fp : Nat → va_E} {g : Nat → Nat} {H : Heap} (hP : va_P D vwCl (aW ad F n9) H) (hD : va_D A (aW ad F n9)) (hg : ∀ i, i < n1 → g i < n9 ∧ adp i = ad (g i) ∧ Fp i = F (g i)) (hgi : ∀ i j, i < n1 → j < n1 → g i = g j → i = j) : va_P D vwCl (aW adp Fp n1) H ∧ va_D (oA adp n1 x) (aW adp Fp n1) ∧ ∀ q, (∃ i, i < n1 ∧ q = adp i) → A q := by
  refine ⟨fun k q hq => ?_, ⟨fun i j p q hp hq e => ?_, fun k q hq => ?_⟩, fun q h => ?_⟩
  · obtain ⟨h1, rfl⟩ := aW_inv hq
    obtain ⟨g1, g2, g3⟩ := hg k h1
    rw [g2, g3]
    exact hP (g k) _ (aW_get g1)
  · obtain ⟨h1, rfl⟩ := aW_inv hp
    obtain ⟨h2, rfl⟩ := aW_inv hq
    obtain ⟨a1, a2, -⟩ := hg i h1
    obtain ⟨b1, b2, -⟩ := hg j h2
    exact hgi i j h1 h2 (hD.1 _ _ _ _ (aW_get a1) (aW_get b1) (by show ad (g i) = ad (g j); rw [← a2, ← b2]; exact e))
  · obtain ⟨h1, rfl⟩ := aW_inv hq
    exact Or.inl ⟨k, h1, rfl⟩
  · obtain ⟨i, h1, rfl⟩ := h
    obtain ⟨a1, a2, -⟩ := hg i h1
    rw [a2]
    exact hD.2 _ _ (aW_get (F := F) a1)
theorem e_back {n1 z : Nat} {adp : Nat → Nat} {Gp G : Nat → va_E} {g : Nat → Nat} {H H1 : Heap} (hP : va_P D vwCl (aW ad F n9) H) (hD : va_D A (aW ad F n9)) (hg : ∀ i, i < n1 → g i < n9 ∧ adp i = ad (g i)) (hz : H.size ≤ z) (hk : ∀ q : Nat, q < H.size → ¬ oA adp n1 z q → H1[q]? = H[q]?) (hP1 : va_P D vwCl (aW adp Gp n1) H1) (hG : ∀ k, k < n9 → ((∀ i, i < n1 → k ≠ g i) ∧ G k = F k) ∨ ∃ i, i < n1 ∧ k = g i ∧ G k = Gp i) : va_P D vwCl (aW ad G n9) H1 := by
  refine aW_upd hP hk (fun k hk9 => ?_)
  rcases hG k hk9 with ⟨h1, h2⟩ | ⟨i, hi, h1, h2⟩
  · refine Or.inl ⟨fun h => ?_, h2⟩
    have hl := (hP k _ (aW_get hk9)).lt
    rcases h with ⟨i, hi, h⟩ | h
    · obtain ⟨a1, a2⟩ := hg i hi
      rw [a2] at h
      exact h1 i hi (hD.1 k (g i) _ _ (aW_get hk9) (aW_get a1) h)
    · exact absurd hl (Nat.not_lt.mpr (Nat.le_trans hz h))
  · refine Or.inr ?_
    rw [h1, ← (hg i hi).2, ← h1, h2]
    exact hP1 i _ (aW_get hi)
theorem e_callS (C : CE D cs A cc nL own fr lo rc rs κ) {y : MethodName} {bts : ByteArray} {n idx nA n1 : Nat} {rm : Room} {adp : Nat → Nat} {Fp Gp G : Nat → va_E} (g : Nat → Nat) {As rest : List Value}
    (hM : ∀ sz, Met l y (.code y bts n none :: TT) rm (va_Pc As (KP D cs adp Fp n1 sz)) (va_Qv (fun _ : Unit => True) (fun _ U => va_P D vwCl (aW adp Gp n1) U.heap) (oA adp n1 sz)) 0 0 (oA adp n1 sz))
    (hGI : GoodIn TT (va_wsS own idx y (.code y bts n none :: TT))) (hrm : rm.cells = 0 ∧ rm.slots = 0) (hyd : y.cls ≠ "java/lang/invoke/MethodHandle" ∧ y.cls ≠ "java/lang/invoke/VarHandle" ∧ (parseMethodDescriptor y.desc).map (fun d => d.parameters.length) = some nA) (hR : rm.frames + 1 ≤ fr ∧ 8 + (n + 11) + rm.locals ≤ lo) (hn : As.length = nA) (hst : st = As.reverse ++ rest) (hW8 : (rest.map fun v => v.category).sum ≤ 8) (hg : ∀ i, i < n1 → g i < n9 ∧ adp i = ad (g i) ∧ Fp i = F (g i)) (hgi : ∀ i j, i < n1 → j < n1 → g i = g j → i = j) (hG : ∀ k, k < n9 → ((∀ i, i < n1 → k ≠ g i) ∧ G k = F k) ∨ ∃ i, i < n1 ∧ k = g i ∧ G k = Gp i) (hc1 : cl ≤ rc) (hs1 : sl ≤ rs) (d : decode cc pc = .ok (.invokestatic idx, 3))
    (k : EV l D nL A κ cl sl ad G n9 (pc + 3) lv rest) : EV l D nL A κ cl sl ad F n9 pc lv st := by
  obtain ⟨p, e, R, s, m, args, below, meth, c, c0, s0, Q⟩ := κ
  obtain ⟨hx, hb, hml, hown, hts, hK, hfr, hlo, hrc, hrs, hAO, hAA, hNw, hA⟩ := C
  intro H locs ls hP hD hS hl
  subst hst
  obtain ⟨hP0, hD0, hA0⟩ := e_sub (x := H.size) hP hD hg hgi
  have hAx : ∀ q, oA adp n1 H.size q → A q := fun q h => h.elim (hA0 q) (fun w => hA q (Nat.le_trans hS.1 w))
  refine va_callv (va_runS (As := As) (rest := rest) ⟨hx, hb, hml, hown, hts⟩ (hM H.size) (va_cwS nA hts hGI rfl hrm.1 hrm.2 hyd ⟨by rw [hfr]; exact hR.1, by rw [hlo]; exact hR.2⟩) ⟨kp_fb, fun U hU hW => ⟨rfl, by rw [hU], by rw [hU]; exact hP0, hD0, va_K.moved hW.alike hK, va_AO.moved hW.alike hAO, va_AOA.moved hW.alike hAA, fun w hw => xk_warm hW (eNw_k w hw) (hNw w hw)⟩⟩ rfl hn hl.1 rfl (lv_room hW8) d ⟨by rw [hrc]; exact hc1, by rw [hrs]; exact hs1⟩) hS (fun q _ h => hAx q h) hAx (fun u t H1 locs1 ht hvm hw hB hz1 hk1 hS1 => ?_)
  rw [ht] at hB
  exact k H1 locs1 ls (e_back hP hD (fun i hi => ⟨(hg i hi).1, (hg i hi).2.1⟩) (Nat.le_refl _) hk1 hB hG) (aW_D hD (Nat.le_refl _)) hS1 hl
theorem e_callV (C : CE D cs A cc nL own fr lo rc rs κ) {y : MethodName} {bts : ByteArray} {n idx nA n1 x id ci : Nat} {rm : Room} {adp : Nat → Nat} {Fp Gp G : Nat → va_E} (g : Nat → Nat) {As rest : List Value} {Cn : String} {q9 : vw_C} {fs : List Value}
    (hM : ∀ sz, Met l y (.code y bts n none :: TT) rm (va_Pc (.ref x :: As) (KP D cs adp Fp n1 sz)) (va_Qv (fun _ : Unit => True) (fun _ U => va_P D vwCl (aW adp Gp n1) U.heap) (oA adp n1 sz)) 0 0 (oA adp n1 sz))
    (hGI : GoodIn TT (wsV own idx Cn y (.code y bts n none :: TT))) (hrm : rm.cells = 0 ∧ rm.slots = 0) (hyd : y.cls = Cn ∧ y.cls ≠ "java/lang/invoke/MethodHandle" ∧ y.cls ≠ "java/lang/invoke/VarHandle" ∧ (parseMethodDescriptor y.desc).map (fun d => d.parameters.length) = some nA) (hR : rm.frames + 1 ≤ fr ∧ 8 + (n + 11) + rm.locals ≤ lo) (hid : id < n9) (hx9 : x = ad id) (he : F id = .inr (ci, fs)) (hc : vwCl[ci]? = some q9) (hq9 : q9.1 = Cn) (hn : As.length = nA) (hst : st = As.reverse ++ .ref x :: rest) (hW8 : (rest.map fun v => v.category).sum ≤ 8) (hg : ∀ i, i < n1 → g i < n9 ∧ adp i = ad (g i) ∧ Fp i = F (g i)) (hgi : ∀ i j, i < n1 → j < n1 → g i = g j → i = j) (hG : ∀ k, k < n9 → ((∀ i, i < n1 → k ≠ g i) ∧ G k = F k) ∨ ∃ i, i < n1 ∧ k = g i ∧ G k = Gp i) (hc1 : cl ≤ rc) (hs1 : sl ≤ rs) (d : decode cc pc = .ok (.invokevirtual idx, 3))
    (k : EV l D nL A κ cl sl ad G n9 (pc + 3) lv rest) : EV l D nL A κ cl sl ad F n9 pc lv st := by
  obtain ⟨p, e, R, s, m, args, below, meth, c, c0, s0, Q⟩ := κ
  obtain ⟨hx, hb, hml, hown, hts, hK, hfr, hlo, hrc, hrs, hAO, hAA, hNw, hA⟩ := C
  intro H locs ls hP hD hS hl
  subst hst
  obtain ⟨hP0, hD0, hA0⟩ := e_sub (x := H.size) hP hD hg hgi
  have hAx : ∀ q, oA adp n1 H.size q → A q := fun q h => h.elim (hA0 q) (fun w => hA q (Nat.le_trans hS.1 w))
  refine va_callv (va_runV (As := As) (rest := rest) ⟨hx, hb, hml, hown, hts⟩ (hM H.size) (cwV nA hts hGI rfl hrm.1 hrm.2 hyd ⟨by rw [hfr]; exact hR.1, by rw [hlo]; exact hR.2⟩) ⟨kp_fb, ?_, fun U hU hW => ⟨rfl, by rw [hU], by rw [hU]; exact hP0, hD0, va_K.moved hW.alike hK, va_AO.moved hW.alike hAO, va_AOA.moved hW.alike hAA, fun w hw => xk_warm hW (eNw_k w hw) (hNw w hw)⟩⟩ rfl hn hl.1 rfl (lv_room hW8) d ⟨by rw [hrc]; exact hc1, by rw [hrs]; exact hs1⟩) hS (fun q _ h => hAx q h) hAx (fun u t H1 locs1 ht hvm hw hB hz1 hk1 hS1 => ?_)
  · have h9 := va_recv hK hP hc (show (aW ad F n9)[id]? = _ by rw [aW_get hid, he])
    rw [hq9] at h9
    rw [hx9]
    exact h9
  · rw [ht] at hB
    exact k H1 locs1 ls (e_back hP hD (fun i hi => ⟨(hg i hi).1, (hg i hi).2.1⟩) (Nat.le_refl _) hk1 hB hG) (aW_D hD (Nat.le_refl _)) hS1 hl
theorem e_fill (C : CE D cs A cc nL own fr lo rc rs κ) {x id idx : Nat} {f : Nat → Int32} (hM : ∀ a sz, Met l yJ7_fill_53178 (.code yJ7_fill_53178 cJ7_fill_53178 4 none :: TT) { frames := 0, cells := 0, slots := 0, locals := 0 } (va_Pc [.ref a, .int (nI 1)] (KP D cs (fun _ => a) (fun _ => .inl (cs 0, 8, .inl f)) 1 sz)) (va_Qv (fun _ : Unit => True) (fun _ U => va_P D vwCl (aW (fun _ => a) (fun _ => .inl (cs 0, 8, .inl (fun j => if j < 8 then nI 1 else f j))) 1) U.heap) (oA (fun _ => a) 1 sz)) 0 0 (oA (fun _ => a) 1 sz)) (hid : id < n9) (hx9 : x = ad id) (he : F id = .inl (cs 0, 8, .inl f)) (w : Cond.methodLink own idx yJ7_fill_53178 ∈ TT) (hfr : 1 ≤ fr) (hlo : 23 ≤ lo) (hc1 : cl ≤ rc) (hs1 : sl ≤ rs) (d : decode cc pc = .ok (.invokestatic idx, 3))
    (k : EV l D nL A κ cl sl ad (uN F id (.inl (cs 0, 8, .inl (fun j => if j < 8 then nI 1 else f j)))) n9 (pc + 3) lv []) : EV l D nL A κ cl sl ad F n9 pc lv [.int (nI 1), .ref x] := by
  refine e_callS C (nA := 2) (n1 := 1) (fun _ => id) (As := [.ref x, .int (nI 1)]) (rest := []) (fun sz9 => hM x sz9) (tt_S2 w st_J7_fill_53178 in_J7 co_J7_fill_53178) ⟨rfl, rfl⟩ ⟨by decide, by decide, by decide⟩ ⟨hfr, hlo⟩ rfl rfl (Nat.le_of_ble_eq_true rfl) (fun i hi => ⟨hid, hx9, he.symm⟩) (fun i j hi hj _ => by omega) (fun k hk => ?_) hc1 hs1 d k
  by_cases e : k = id
  · exact Or.inr ⟨0, by decide, e, if_pos e⟩
  · exact Or.inl ⟨fun _ _ => e, if_neg e⟩
theorem bl_0 {P : Nat → Prop} : ∀ i, i < 0 → P i := fun _ h => absurd h (Nat.not_lt_zero _)
theorem bl_s {P : Nat → Prop} {n : Nat} (h : ∀ i, i < n → P i) (p : P n) : ∀ i, i < n + 1 → P i := fun i hi => by
  by_cases e : i = n
  · rw [e]; exact p
  · exact h i (by omega)
/-- the end of a constructor's walk -/
def eE (l : Launch) (D : va_G) (nL : Nat) (A : Nat → Prop) (cc : ByteArray) (mc ms : Nat) (κ : Kx) (E : State → Prop) : Prop := ∀ (cl sl : Nat) (ad : Nat → Nat) (F : Nat → va_E) (n pc : Nat) (lv : List (Nat × Value)), cl ≤ mc → sl ≤ ms → decode cc pc = .ok (.return_, 1) → (∀ U : State, va_P D vwCl (aW ad F n) U.heap → va_D A (aW ad F n) → E U) → EV l D nL A κ cl sl ad F n pc lv []
theorem st_E {y : MethodName} {b : ByteArray} {n np mc ms sz : Nat} {As : List Value} {adp : Nat → Nat} {F0 : Nat → va_E} {S : Type} {post : S → Prop} {B : S → State → Prop} (hy : plainName y.cls = true) (hAs : (lg_sl As).length ≤ n) (body : ∀ κ, CE D cs (oA adp np sz) b n y.cls fr lo mc ms κ → CI κ y.name → eE l D n (oA adp np sz) b mc ms κ (fun U => ∃ u, post u ∧ B u U) → EV l D n (oA adp np sz) κ 0 0 adp F0 np 0 (lv_args 0 As) []) : Met l y (.code y b n none :: TT) { frames := fr, cells := mc, slots := ms, locals := lo } (va_Pc As (KP D cs adp F0 np sz)) (va_Qv post B (oA adp np sz)) mc ms (oA adp np sz) := by
  refine Met.ofW (cc := b) (maxL := n) (ret := none) hy rfl ?_
  intro p e s m args below meth c s₁ B hml hv
  obtain ⟨rfl, hsz, hP, hD, hK, hAO, hAA, hN⟩ := hv
  have hx := B.exec
  have hb := B.bytes
  have hr := B.returns
  have hts0 := atoms_spec (ws := .code y b n none :: TT) B.pre
  have hts : ∀ w ∈ TT, w.before As.toArray s = true := fun w hw => hts0 w (List.mem_cons_of_mem _ hw)
  have hown := findClass_of_methodNamed B.named
  have hlocks := B.notSynchronized
  have hin : meth.name = y.name := (name_of_methodNamed B.named B.method).1
  subst hsz
  have hl := lv_entry As (n := n) hAs
  rw [lg_entry_eq]
  generalize (lg_sl As ++ List.replicate (n - (lg_sl As).length) Slot.unset).toArray = ls at hl ⊢
  refine body (p, e, _, s, m, As.toArray, below, meth, c, 0, 0, _) ⟨hx, hb, hml, hown, hts, hK, rfl, rfl, rfl, rfl, hAO, hAA, hN, fun q h => Or.inr h⟩ hin ?_ s.heap [] ls hP hD va_S.rf hl
  intro cl sl ad F n9 pc lv h1 h2 d hE
  intro H locs ls hP hD hS hl
  refine W.widen (k := mc) (n := ms) h1 h2 ?_
  exact W.vret hx hb hr (fun t ht hW => ⟨by obtain ⟨u, g1, g2⟩ := hE t (by rw [ht]; exact hP) hD; exact ⟨u, rfl, g1, g2⟩, hS.F ht⟩) hS.2.2 d hlocks
end EVS
