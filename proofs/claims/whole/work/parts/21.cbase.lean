/-! ===== the class's methods: nest links, throws (written by wip/whole/gen/cbase.py) ===== -/
def xS : String := "(Ljava/lang/String;)V"
/-- words of the tables that are no good ones: links of nest mates, what a throw needs -/
def xNw : List Cond := [.methodLinkNest RX4 85 yX7_product RX7, .methodLinkNest RX0 52 yX7_product RX7, .methodLinkNest RX4 81 yX7_furthest RX7,
  .declares ⟨"java/lang/RuntimeException", "<init>", "(Ljava/lang/String;)V"⟩, .declares ⟨"java/lang/Exception", "<init>", "(Ljava/lang/String;)V"⟩, .declares ⟨"java/lang/Throwable", "<init>", "(Ljava/lang/String;)V"⟩,
  .castable "java/lang/IllegalArgumentException" "java/lang/IllegalArgumentException", .castable "java/lang/IllegalStateException" "java/lang/IllegalStateException", .castable "java/lang/IndexOutOfBoundsException" "java/lang/IndexOutOfBoundsException"]
def xk : Cond → Bool
  | .methodLinkNest .. => true
  | .castable .. => true
  | .declares .. => true
  | _ => false
theorem xk_ot {w : Cond} (h : xk w = true) : w.onTables = true := by cases w <;> first | rfl | exact absurd h Bool.false_ne_true
theorem xk_warm {w : Cond} {s U : State} (hW : s.WarmedH U.vm) (g : xk w = true) (h : va_Nw w s) : va_Nw w U := by
  cases w <;> first | exact h.warmM hW | exact h.warmC hW | exact h.warmD hW | exact absurd g Bool.false_ne_true
theorem xNw_k : ∀ w ∈ xNw, xk w = true := fun w h => List.all_eq_true.mp (show xNw.all xk = true by decide +kernel) w h
def xTx : List (Nat × String) := [(72, "no such number of vertices, or no such dimension"), (287, "no such vertex"), (91, "a vertex is not joined with itself"), (101, "no such weight"), (112, "it is the only vertex"), (292, "no such snapshot"), (294, "the snapshot was not taken"), (125, "there is a reason against the product"), (290, "no such place"), (296, "no such number of a vector"), (158, "there are more colors than the dimension"), (298, "no such size of a handle"), (187, "no such character"), (192, "the buffer is full"), (206, "the buffer is not a complete row of edges"), (220, "there is no saved state"), (232, "no such property"), (300, "no such part"), (254, "no such number of a handle"), (259, "no such number")]
def xNc : List (String × String) := [("java/lang/IllegalArgumentException", "java/lang/IndexOutOfBoundsException"), ("java/lang/IllegalStateException", "java/lang/IndexOutOfBoundsException"), ("java/lang/IllegalStateException", "java/lang/IllegalArgumentException")]
/-- what a throw needs of the machine: Throwable's two statics outside of A, the texts, the words, who is no other's child -/
def xX (A : Nat → Prop) (U : State) (H : Heap) : Prop := vx_Zq Bundle.tN "UNASSIGNED_STACK" Bundle.steD A U H ∧ vx_Zq Bundle.tN "SUPPRESSED_SENTINEL" Bundle.listD A U H ∧ (∀ q ∈ xTx, ∃ a, vk_R RX7 q.1 q.2 a U) ∧ (∀ w ∈ xNw, va_Nw w U) ∧ ∀ q ∈ xNc, va_Nc q.1 q.2 U
theorem xX.warm {A : Nat → Prop} {s U : State} {H : Heap} (hW : s.WarmedH U.vm) (h : xX A s H) : xX A U H := by
  obtain ⟨h1, h2, h3, h4, h5⟩ := h
  exact ⟨h1.moved hW.alike, h2.moved hW.alike, fun q hq => (h3 q hq).elim (fun a ha => ⟨a, ha.warm hW⟩), fun w hw => xk_warm hW (xNw_k w hw) (h4 w hw), fun q hq => (h5 q hq).moved hW.alike⟩
theorem xX.same {A : Nat → Prop} {s U : State} {H : Heap} (hv : U.vm = s.vm) (h : xX A s H) : xX A U H := by
  obtain ⟨h1, h2, h3, h4, h5⟩ := h
  have ha : s.vm.Alike U.vm := by rw [hv]; exact Vm.Alike.refl _
  exact ⟨h1.moved ha, h2.moved ha, fun q hq => (h3 q hq).elim (fun a ha => ⟨a, ha.same hv⟩), fun w hw => (h4 w hw).same (xk_ot (xNw_k w hw)) hv.symm, fun q hq => (h5 q hq).moved ha⟩
theorem xX.kept {A : Nat → Prop} {U : State} {H H1 : Heap} (h : xX A U H) (hq : ∀ a : Nat, a < H.size → ¬ A a → H1[a]? = H[a]?) : xX A U H1 := ⟨h.1.kept hq, h.2.1.kept hq, h.2.2⟩
theorem xX.narrow {A B : Nat → Prop} {U : State} {H : Heap} (h : xX A U H) (hAB : ∀ q, B q → A q) : xX B U H := ⟨h.1.narrow hAB, h.2.1.narrow hAB, h.2.2⟩
/-- as xX, of the place of a walk's start -/
def CN (ad : Nat → Nat) : Kx → Prop
  | (_, _, _, s, _) => xX (fA ad s.heap.size) s s.heap
theorem xX.now {ad : Nat → Nat} {s : State} {H : Heap} {locs : List Loc} (h : xX (fA ad s.heap.size) s s.heap) (hS : va_S (fA ad s.heap.size) s.heap H locs) : xX (fA ad H.size) s H := (h.kept hS.2.1).narrow (fun _ hq => fA_mono hS.1 hq)
def xQA : String := "java/lang/IllegalArgumentException"
theorem xw_A {args : Array Value} {s : State} (hts : ∀ w ∈ TT, w.before args s = true) (hN : ∀ w ∈ xNw, va_Nw w s) : ∀ w ∈ vx_atS RX7 74 xQA ["java/lang/RuntimeException", "java/lang/Exception"], w.before args s = true :=
  vx_hat (fun w hw => hts w (List.mem_filter.mpr ⟨of_decide_eq_true (List.all_eq_true.mp (show ((vx_atS RX7 74 xQA ["java/lang/RuntimeException", "java/lang/Exception"]).filter goodWord).all (fun w => decide (w ∈ lw_tbl)) = true by decide +kernel) w hw), (List.mem_filter.mp hw).2⟩))
    (fun w hw => of_decide_eq_true (List.all_eq_true.mp (show ((vx_atS RX7 74 xQA ["java/lang/RuntimeException", "java/lang/Exception"]).filter (fun w => !goodWord w)).all (fun w => decide (w ∈ xNw)) = true by decide +kernel) w hw))
    (fun w hw => va_Nw.use (xk_ot (xNw_k w hw)) (hN w hw))
theorem xg_A : ∀ w ∈ Cond.classLink RX7 70 xQA :: Cond.initialized xQA :: vx_atS RX7 74 xQA ["java/lang/RuntimeException", "java/lang/Exception"], vx_ot w = true := fun w hw => List.all_eq_true.mp (show (Cond.classLink RX7 70 xQA :: Cond.initialized xQA :: vx_atS RX7 74 xQA ["java/lang/RuntimeException", "java/lang/Exception"]).all vx_ot = true by decide +kernel) w hw
theorem xl_A : Cond.classLink RX7 70 xQA ∈ TT := List.mem_filter.mpr ⟨by decide +kernel, by decide +kernel⟩
theorem xi_A : Cond.initialized xQA ∈ TT := List.mem_filter.mpr ⟨by decide +kernel, by decide +kernel⟩
def xQS : String := "java/lang/IllegalStateException"
theorem xw_S {args : Array Value} {s : State} (hts : ∀ w ∈ TT, w.before args s = true) (hN : ∀ w ∈ xNw, va_Nw w s) : ∀ w ∈ vx_atS RX7 114 xQS ["java/lang/RuntimeException", "java/lang/Exception"], w.before args s = true :=
  vx_hat (fun w hw => hts w (List.mem_filter.mpr ⟨of_decide_eq_true (List.all_eq_true.mp (show ((vx_atS RX7 114 xQS ["java/lang/RuntimeException", "java/lang/Exception"]).filter goodWord).all (fun w => decide (w ∈ lw_tbl)) = true by decide +kernel) w hw), (List.mem_filter.mp hw).2⟩))
    (fun w hw => of_decide_eq_true (List.all_eq_true.mp (show ((vx_atS RX7 114 xQS ["java/lang/RuntimeException", "java/lang/Exception"]).filter (fun w => !goodWord w)).all (fun w => decide (w ∈ xNw)) = true by decide +kernel) w hw))
    (fun w hw => va_Nw.use (xk_ot (xNw_k w hw)) (hN w hw))
theorem xg_S : ∀ w ∈ Cond.classLink RX7 110 xQS :: Cond.initialized xQS :: vx_atS RX7 114 xQS ["java/lang/RuntimeException", "java/lang/Exception"], vx_ot w = true := fun w hw => List.all_eq_true.mp (show (Cond.classLink RX7 110 xQS :: Cond.initialized xQS :: vx_atS RX7 114 xQS ["java/lang/RuntimeException", "java/lang/Exception"]).all vx_ot = true by decide +kernel) w hw
theorem xl_S : Cond.classLink RX7 110 xQS ∈ TT := List.mem_filter.mpr ⟨by decide +kernel, by decide +kernel⟩
theorem xi_S : Cond.initialized xQS ∈ TT := List.mem_filter.mpr ⟨by decide +kernel, by decide +kernel⟩
def xQI : String := "java/lang/IndexOutOfBoundsException"
theorem xw_I {args : Array Value} {s : State} (hts : ∀ w ∈ TT, w.before args s = true) (hN : ∀ w ∈ xNw, va_Nw w s) : ∀ w ∈ vx_atS RX7 289 xQI ["java/lang/RuntimeException", "java/lang/Exception"], w.before args s = true :=
  vx_hat (fun w hw => hts w (List.mem_filter.mpr ⟨of_decide_eq_true (List.all_eq_true.mp (show ((vx_atS RX7 289 xQI ["java/lang/RuntimeException", "java/lang/Exception"]).filter goodWord).all (fun w => decide (w ∈ lw_tbl)) = true by decide +kernel) w hw), (List.mem_filter.mp hw).2⟩))
    (fun w hw => of_decide_eq_true (List.all_eq_true.mp (show ((vx_atS RX7 289 xQI ["java/lang/RuntimeException", "java/lang/Exception"]).filter (fun w => !goodWord w)).all (fun w => decide (w ∈ xNw)) = true by decide +kernel) w hw))
    (fun w hw => va_Nw.use (xk_ot (xNw_k w hw)) (hN w hw))
theorem xg_I : ∀ w ∈ Cond.classLink RX7 285 xQI :: Cond.initialized xQI :: vx_atS RX7 289 xQI ["java/lang/RuntimeException", "java/lang/Exception"], vx_ot w = true := fun w hw => List.all_eq_true.mp (show (Cond.classLink RX7 285 xQI :: Cond.initialized xQI :: vx_atS RX7 289 xQI ["java/lang/RuntimeException", "java/lang/Exception"]).all vx_ot = true by decide +kernel) w hw
theorem xl_I : Cond.classLink RX7 285 xQI ∈ TT := List.mem_filter.mpr ⟨by decide +kernel, by decide +kernel⟩
theorem xi_I : Cond.initialized xQI ∈ TT := List.mem_filter.mpr ⟨by decide +kernel, by decide +kernel⟩
/-- inside of a method that will throw E, its memory then as px says -/
def CT (l : Launch) (D : va_G) (cs : Nat → ClassId) (ad : Nat → Nat) (E : String) (px : Mm → Prop) : Kx → Prop
  | (_, _, R, s, _, args, below, meth, c, c0, s0, Q) => l.stackTraces = false ∧ (∀ x ∈ c.exceptionTable.toList, False) ∧ meth.locks = false ∧ R.cells = 1 ∧ R.slots = 6 ∧ c0 = 0 ∧ s0 = 0 ∧ ∃ Qc, Q = vx_MQ below Qc (vx_X px (fun E9 M2 t => E9 = E ∧ wB D cs ad (fA ad s.heap.size) M2 t) (fA ad s.heap.size)) args s 1 6 (fA ad s.heap.size)
section CVS
variable {l : Launch} {D : va_G} {cs : Nat → ClassId} {ad : Nat → Nat} {nL : Nat} {κ : Kx} {u : Nat} {M : Mm} {pc : Nat} {lv : List (Nat × Value)} {st : List Value} {cc : ByteArray} {own : String} {fr lo U : Nat}
/-- throw new E("text"), at the end of a method that throws -/
theorem r_throw (C : CX D cs ad cc nL RX7 fr lo 0 κ) (hN : CN ad κ) {E text : String} {px : Mm → Prop} (X : CT l D cs ad E px κ) {ik ic is : Nat} (hfit : Bundle.fit E = true) (htx : (is, text) ∈ xTx) (hl1 : Cond.classLink RX7 ik E ∈ TT) (hl2 : Cond.initialized E ∈ TT) (hw : ∀ {args : Array Value} {s : State}, (∀ w ∈ TT, w.before args s = true) → (∀ w ∈ xNw, va_Nw w s) → ∀ w ∈ vx_atS RX7 ic E ["java/lang/RuntimeException", "java/lang/Exception"], w.before args s = true) (hg : ∀ w ∈ Cond.classLink RX7 ik E :: Cond.initialized E :: vx_atS RX7 ic E ["java/lang/RuntimeException", "java/lang/Exception"], vx_ot w = true)
    (d0 : decode cc pc = .ok (.new ik, 3)) (d3 : decode cc (pc + 3) = .ok (.dup, 1)) (d4 : decode cc (pc + 4) = .ok (.ldc is, 2)) (d6 : decode cc (pc + 6) = .ok (.invokespecial ic, 3)) (d9 : decode cc (pc + 9) = .ok (.athrow, 1)) (hf9 : 5 < fr) (hlo9 : (st.map fun v => v.category).sum + 82 ≤ lo) (hpx : px M) : VV l D cs ad nL κ 0 M pc lv st := by
  obtain ⟨p, e, R, s, m, args, below, meth, c, c0, s0, Q⟩ := κ
  obtain ⟨hx, hb, hml, hown, hts, hK, hD, hfr, hlo, hc0, hs0⟩ := C
  obtain ⟨hst, htab, hlk, hRc, hRs, rfl, rfl, Qc, rfl⟩ := X
  intro H locs ls hP hS hl
  obtain ⟨n1, n2, n3, n4, -⟩ := hN
  obtain ⟨sa, hsa⟩ := n3 _ htx
  exact vx_throwS (names := ["java/lang/RuntimeException", "java/lang/Exception"]) (A := fA ad s.heap.size) hx hb hst hown hfit (by decide) (hts _ hl1) (hts _ hl2) hsa (hw hts n4) hg n1 n2 hS (hl.1.trans hml.symm) d0 d3 d4 d6 d9 (fun x h => (htab x h).elim) (by rw [hfr]; exact hf9) (by rw [hlo]; exact hlo9) (by rw [hRc]; exact Nat.le_refl _) (by rw [hRs]; exact Nat.le_refl _) hlk
    (fun t ht hz hk => ⟨M, hpx, ⟨rfl, hP.kept (fun k q hq => hk q.1 (vx_lt hP hq)), va_K.moved ht hK, hD M⟩, Nat.le_trans hS.1 hz, fun q h1 h2 => by rw [hk q (Nat.lt_of_lt_of_le h1 hS.1)]; exact hS.2.1 q h1 h2⟩) hS.2.2 (by omega) (by omega)
/-- throw new E("text"), at the end of a method that throws -/
theorem r_throwW (C : CX D cs ad cc nL RX7 fr lo 0 κ) (hN : CN ad κ) {E text : String} {px : Mm → Prop} (X : CT l D cs ad E px κ) {ik ic is : Nat} (hfit : Bundle.fit E = true) (htx : (is, text) ∈ xTx) (hl1 : Cond.classLink RX7 ik E ∈ TT) (hl2 : Cond.initialized E ∈ TT) (hw : ∀ {args : Array Value} {s : State}, (∀ w ∈ TT, w.before args s = true) → (∀ w ∈ xNw, va_Nw w s) → ∀ w ∈ vx_atS RX7 ic E ["java/lang/RuntimeException", "java/lang/Exception"], w.before args s = true) (hg : ∀ w ∈ Cond.classLink RX7 ik E :: Cond.initialized E :: vx_atS RX7 ic E ["java/lang/RuntimeException", "java/lang/Exception"], vx_ot w = true)
    (d0 : decode cc pc = .ok (.new ik, 3)) (d3 : decode cc (pc + 3) = .ok (.dup, 1)) (d4 : decode cc (pc + 4) = .ok (.ldc_w is, 3)) (d6 : decode cc (pc + 7) = .ok (.invokespecial ic, 3)) (d9 : decode cc (pc + 10) = .ok (.athrow, 1)) (hf9 : 5 < fr) (hlo9 : (st.map fun v => v.category).sum + 82 ≤ lo) (hpx : px M) : VV l D cs ad nL κ 0 M pc lv st := by
  obtain ⟨p, e, R, s, m, args, below, meth, c, c0, s0, Q⟩ := κ
  obtain ⟨hx, hb, hml, hown, hts, hK, hD, hfr, hlo, hc0, hs0⟩ := C
  obtain ⟨hst, htab, hlk, hRc, hRs, rfl, rfl, Qc, rfl⟩ := X
  intro H locs ls hP hS hl
  obtain ⟨n1, n2, n3, n4, -⟩ := hN
  obtain ⟨sa, hsa⟩ := n3 _ htx
  exact vx_throwSW (names := ["java/lang/RuntimeException", "java/lang/Exception"]) (A := fA ad s.heap.size) hx hb hst hown hfit (by decide) (hts _ hl1) (hts _ hl2) hsa (hw hts n4) hg n1 n2 hS (hl.1.trans hml.symm) d0 d3 d4 d6 d9 (fun x h => (htab x h).elim) (by rw [hfr]; exact hf9) (by rw [hlo]; exact hlo9) (by rw [hRc]; exact Nat.le_refl _) (by rw [hRs]; exact Nat.le_refl _) hlk
    (fun t ht hz hk => ⟨M, hpx, ⟨rfl, hP.kept (fun k q hq => hk q.1 (vx_lt hP hq)), va_K.moved ht hK, hD M⟩, Nat.le_trans hS.1 hz, fun q h1 h2 => by rw [hk q (Nat.lt_of_lt_of_le h1 hS.1)]; exact hS.2.1 q h1 h2⟩) hS.2.2 (by omega) (by omega)
theorem sn_I {y : MethodName} {b : ByteArray} {n : Nat} {As : List Value} {post : Int32 → Mm → Prop} (hy : plainName y.cls = true) (hAs : (lg_sl As).length ≤ n) (body : ∀ κ, CX D cs ad b n y.cls fr lo 0 κ → CN ad κ → eI l D cs ad n b 0 κ post → VV l D cs ad n κ 0 M 0 (lv_args 0 As) []) (sz : Nat) : Met l y (.code y b n (some .int) :: TT) { frames := fr, cells := 0, slots := 0, locals := lo } (va_Pc As (fun U9 => U9.heap.size = sz ∧ wB D cs ad (fA ad sz) M U9 ∧ xX (fA ad sz) U9 U9.heap)) (va_Qi post (wB D cs ad (fA ad sz)) (fA ad sz)) 0 0 (fA ad sz) := by
  refine Met.ofW (cc := b) (maxL := n) (ret := (some .int)) hy rfl ?_
  intro p e s m args below meth c s₁ B hml hv
  obtain ⟨rfl, hsz, ⟨hP, hK, hD0⟩, hX⟩ := hv
  have hx := B.exec
  have hb := B.bytes
  have hr := B.returns
  have hts0 := atoms_spec (ws := .code y b n (some .int) :: TT) B.pre
  have hts : ∀ w ∈ TT, w.before As.toArray s = true := fun w hw => hts0 w (List.mem_cons_of_mem _ hw)
  have hown := findClass_of_methodNamed B.named
  have hlocks := B.notSynchronized
  subst hsz
  have hD : ∀ M, va_D (fA ad s.heap.size) (wW cs ad M) := fun M' => wD_any (fun i hi => fA_in hi) hD0 M'
  have hl := lv_entry As (n := n) hAs
  rw [lg_entry_eq]
  generalize (lg_sl As ++ List.replicate (n - (lg_sl As).length) Slot.unset).toArray = ls at hl ⊢
  refine body (p, e, _, s, m, As.toArray, below, meth, c, 0, 0, _) ⟨hx, hb, hml, hown, hts, hK, hD, rfl, rfl, Nat.le_refl _, Nat.le_refl _⟩ hX ?_ s.heap [] ls hP va_S.rf hl
  intro u M2 pc lv v hu d hpost
  obtain rfl : u = 0 := by omega
  intro H locs ls hP hS hl
  exact W.iret hx hb hr (fun t ht hW => ⟨⟨v, M2, rfl, hpost, by rw [ht]; exact hP, va_K.moved hW.alike hK, hD M2⟩, hS.F ht⟩) hS.2.2 d hlocks
/-- a method that throws -/
theorem sx_I (hfl : l.stackTraces = false) {y : MethodName} {b : ByteArray} {n : Nat} {As : List Value} {E : String} {px : Mm → Prop} (hy : plainName y.cls = true) (hAs : (lg_sl As).length ≤ n) (body : ∀ κ, CX D cs ad b n y.cls fr lo 0 κ → CN ad κ → CT l D cs ad E px κ → VV l D cs ad n κ 0 M 0 (lv_args 0 As) []) (sz : Nat) : vx_Met l y (.code y b n (some .int) :: TT) { frames := fr, cells := 1, slots := 6, locals := lo } (va_Pc As (fun U9 => U9.heap.size = sz ∧ wB D cs ad (fA ad sz) M U9 ∧ xX (fA ad sz) U9 U9.heap)) (va_Qi (fun _ (_ : Mm) => False) (wB D cs ad (fA ad sz)) (fA ad sz)) (vx_X px (fun E9 M2 t => E9 = E ∧ wB D cs ad (fA ad sz) M2 t) (fA ad sz)) 1 6 (fA ad sz) := by
  refine vx_ofW (cc := b) (maxL := n) (ret := (some .int)) hy rfl ?_
  intro p e s m args below meth c s₁ B hml htab hv
  obtain ⟨rfl, hsz, ⟨hP, hK, hD0⟩, hX⟩ := hv
  have hx := B.exec
  have hb := B.bytes
  have hr := B.returns
  have hts0 := atoms_spec (ws := .code y b n (some .int) :: TT) B.pre
  have hts : ∀ w ∈ TT, w.before As.toArray s = true := fun w hw => hts0 w (List.mem_cons_of_mem _ hw)
  have hown := findClass_of_methodNamed B.named
  have hlocks := B.notSynchronized
  subst hsz
  have hD : ∀ M, va_D (fA ad s.heap.size) (wW cs ad M) := fun M' => wD_any (fun i hi => fA_in hi) hD0 M'
  have hl := lv_entry As (n := n) hAs
  rw [lg_entry_eq]
  generalize (lg_sl As ++ List.replicate (n - (lg_sl As).length) Slot.unset).toArray = ls at hl ⊢
  exact body (p, e, _, s, m, As.toArray, below, meth, c, 0, 0, _) ⟨hx, hb, hml, hown, hts, hK, hD, rfl, rfl, Nat.zero_le _, Nat.zero_le _⟩ hX ⟨hfl, htab, hlocks, rfl, rfl, rfl, rfl, _, rfl⟩ s.heap [] ls hP va_S.rf hl
theorem sn_Z {y : MethodName} {b : ByteArray} {n : Nat} {As : List Value} {post : Int32 → Mm → Prop} (hy : plainName y.cls = true) (hAs : (lg_sl As).length ≤ n) (body : ∀ κ, CX D cs ad b n y.cls fr lo 0 κ → CN ad κ → eZ l D cs ad n b 0 κ post → VV l D cs ad n κ 0 M 0 (lv_args 0 As) []) (sz : Nat) : Met l y (.code y b n (some .boolean) :: TT) { frames := fr, cells := 0, slots := 0, locals := lo } (va_Pc As (fun U9 => U9.heap.size = sz ∧ wB D cs ad (fA ad sz) M U9 ∧ xX (fA ad sz) U9 U9.heap)) (va_Qi post (wB D cs ad (fA ad sz)) (fA ad sz)) 0 0 (fA ad sz) := by
  refine Met.ofW (cc := b) (maxL := n) (ret := (some .boolean)) hy rfl ?_
  intro p e s m args below meth c s₁ B hml hv
  obtain ⟨rfl, hsz, ⟨hP, hK, hD0⟩, hX⟩ := hv
  have hx := B.exec
  have hb := B.bytes
  have hr := B.returns
  have hts0 := atoms_spec (ws := .code y b n (some .boolean) :: TT) B.pre
  have hts : ∀ w ∈ TT, w.before As.toArray s = true := fun w hw => hts0 w (List.mem_cons_of_mem _ hw)
  have hown := findClass_of_methodNamed B.named
  have hlocks := B.notSynchronized
  subst hsz
  have hD : ∀ M, va_D (fA ad s.heap.size) (wW cs ad M) := fun M' => wD_any (fun i hi => fA_in hi) hD0 M'
  have hl := lv_entry As (n := n) hAs
  rw [lg_entry_eq]
  generalize (lg_sl As ++ List.replicate (n - (lg_sl As).length) Slot.unset).toArray = ls at hl ⊢
  refine body (p, e, _, s, m, As.toArray, below, meth, c, 0, 0, _) ⟨hx, hb, hml, hown, hts, hK, hD, rfl, rfl, Nat.le_refl _, Nat.le_refl _⟩ hX ?_ s.heap [] ls hP va_S.rf hl
  intro u M2 pc lv v hu d hnr hpost
  obtain rfl : u = 0 := by omega
  intro H locs ls hP hS hl
  exact W.zret hx hb hr hnr (fun t ht hW => ⟨⟨v, M2, rfl, hpost, by rw [ht]; exact hP, va_K.moved hW.alike hK, hD M2⟩, hS.F ht⟩) hS.2.2 d hlocks
/-- a method that throws -/
theorem sx_Z (hfl : l.stackTraces = false) {y : MethodName} {b : ByteArray} {n : Nat} {As : List Value} {E : String} {px : Mm → Prop} (hy : plainName y.cls = true) (hAs : (lg_sl As).length ≤ n) (body : ∀ κ, CX D cs ad b n y.cls fr lo 0 κ → CN ad κ → CT l D cs ad E px κ → VV l D cs ad n κ 0 M 0 (lv_args 0 As) []) (sz : Nat) : vx_Met l y (.code y b n (some .boolean) :: TT) { frames := fr, cells := 1, slots := 6, locals := lo } (va_Pc As (fun U9 => U9.heap.size = sz ∧ wB D cs ad (fA ad sz) M U9 ∧ xX (fA ad sz) U9 U9.heap)) (va_Qi (fun _ (_ : Mm) => False) (wB D cs ad (fA ad sz)) (fA ad sz)) (vx_X px (fun E9 M2 t => E9 = E ∧ wB D cs ad (fA ad sz) M2 t) (fA ad sz)) 1 6 (fA ad sz) := by
  refine vx_ofW (cc := b) (maxL := n) (ret := (some .boolean)) hy rfl ?_
  intro p e s m args below meth c s₁ B hml htab hv
  obtain ⟨rfl, hsz, ⟨hP, hK, hD0⟩, hX⟩ := hv
  have hx := B.exec
  have hb := B.bytes
  have hr := B.returns
  have hts0 := atoms_spec (ws := .code y b n (some .boolean) :: TT) B.pre
  have hts : ∀ w ∈ TT, w.before As.toArray s = true := fun w hw => hts0 w (List.mem_cons_of_mem _ hw)
  have hown := findClass_of_methodNamed B.named
  have hlocks := B.notSynchronized
  subst hsz
  have hD : ∀ M, va_D (fA ad s.heap.size) (wW cs ad M) := fun M' => wD_any (fun i hi => fA_in hi) hD0 M'
  have hl := lv_entry As (n := n) hAs
  rw [lg_entry_eq]
  generalize (lg_sl As ++ List.replicate (n - (lg_sl As).length) Slot.unset).toArray = ls at hl ⊢
  exact body (p, e, _, s, m, As.toArray, below, meth, c, 0, 0, _) ⟨hx, hb, hml, hown, hts, hK, hD, rfl, rfl, Nat.zero_le _, Nat.zero_le _⟩ hX ⟨hfl, htab, hlocks, rfl, rfl, rfl, rfl, _, rfl⟩ s.heap [] ls hP va_S.rf hl
theorem sn_L {y : MethodName} {b : ByteArray} {n : Nat} {As : List Value} {post : Int64 → Mm → Prop} (hy : plainName y.cls = true) (hAs : (lg_sl As).length ≤ n) (body : ∀ κ, CX D cs ad b n y.cls fr lo 0 κ → CN ad κ → eL l D cs ad n b 0 κ post → VV l D cs ad n κ 0 M 0 (lv_args 0 As) []) (sz : Nat) : Met l y (.code y b n (some .long) :: TT) { frames := fr, cells := 0, slots := 0, locals := lo } (va_Pc As (fun U9 => U9.heap.size = sz ∧ wB D cs ad (fA ad sz) M U9 ∧ xX (fA ad sz) U9 U9.heap)) (va_Ql post (wB D cs ad (fA ad sz)) (fA ad sz)) 0 0 (fA ad sz) := by
  refine Met.ofW (cc := b) (maxL := n) (ret := (some .long)) hy rfl ?_
  intro p e s m args below meth c s₁ B hml hv
  obtain ⟨rfl, hsz, ⟨hP, hK, hD0⟩, hX⟩ := hv
  have hx := B.exec
  have hb := B.bytes
  have hr := B.returns
  have hts0 := atoms_spec (ws := .code y b n (some .long) :: TT) B.pre
  have hts : ∀ w ∈ TT, w.before As.toArray s = true := fun w hw => hts0 w (List.mem_cons_of_mem _ hw)
  have hown := findClass_of_methodNamed B.named
  have hlocks := B.notSynchronized
  subst hsz
  have hD : ∀ M, va_D (fA ad s.heap.size) (wW cs ad M) := fun M' => wD_any (fun i hi => fA_in hi) hD0 M'
  have hl := lv_entry As (n := n) hAs
  rw [lg_entry_eq]
  generalize (lg_sl As ++ List.replicate (n - (lg_sl As).length) Slot.unset).toArray = ls at hl ⊢
  refine body (p, e, _, s, m, As.toArray, below, meth, c, 0, 0, _) ⟨hx, hb, hml, hown, hts, hK, hD, rfl, rfl, Nat.le_refl _, Nat.le_refl _⟩ hX ?_ s.heap [] ls hP va_S.rf hl
  intro u M2 pc lv v hu d hpost
  obtain rfl : u = 0 := by omega
  intro H locs ls hP hS hl
  exact W.lret hx hb hr (fun t ht hW => ⟨⟨v, M2, rfl, hpost, by rw [ht]; exact hP, va_K.moved hW.alike hK, hD M2⟩, hS.F ht⟩) hS.2.2 d hlocks
/-- a method that throws -/
theorem sx_L (hfl : l.stackTraces = false) {y : MethodName} {b : ByteArray} {n : Nat} {As : List Value} {E : String} {px : Mm → Prop} (hy : plainName y.cls = true) (hAs : (lg_sl As).length ≤ n) (body : ∀ κ, CX D cs ad b n y.cls fr lo 0 κ → CN ad κ → CT l D cs ad E px κ → VV l D cs ad n κ 0 M 0 (lv_args 0 As) []) (sz : Nat) : vx_Met l y (.code y b n (some .long) :: TT) { frames := fr, cells := 1, slots := 6, locals := lo } (va_Pc As (fun U9 => U9.heap.size = sz ∧ wB D cs ad (fA ad sz) M U9 ∧ xX (fA ad sz) U9 U9.heap)) (va_Ql (fun _ (_ : Mm) => False) (wB D cs ad (fA ad sz)) (fA ad sz)) (vx_X px (fun E9 M2 t => E9 = E ∧ wB D cs ad (fA ad sz) M2 t) (fA ad sz)) 1 6 (fA ad sz) := by
  refine vx_ofW (cc := b) (maxL := n) (ret := (some .long)) hy rfl ?_
  intro p e s m args below meth c s₁ B hml htab hv
  obtain ⟨rfl, hsz, ⟨hP, hK, hD0⟩, hX⟩ := hv
  have hx := B.exec
  have hb := B.bytes
  have hr := B.returns
  have hts0 := atoms_spec (ws := .code y b n (some .long) :: TT) B.pre
  have hts : ∀ w ∈ TT, w.before As.toArray s = true := fun w hw => hts0 w (List.mem_cons_of_mem _ hw)
  have hown := findClass_of_methodNamed B.named
  have hlocks := B.notSynchronized
  subst hsz
  have hD : ∀ M, va_D (fA ad s.heap.size) (wW cs ad M) := fun M' => wD_any (fun i hi => fA_in hi) hD0 M'
  have hl := lv_entry As (n := n) hAs
  rw [lg_entry_eq]
  generalize (lg_sl As ++ List.replicate (n - (lg_sl As).length) Slot.unset).toArray = ls at hl ⊢
  exact body (p, e, _, s, m, As.toArray, below, meth, c, 0, 0, _) ⟨hx, hb, hml, hown, hts, hK, hD, rfl, rfl, Nat.zero_le _, Nat.zero_le _⟩ hX ⟨hfl, htab, hlocks, rfl, rfl, rfl, rfl, _, rfl⟩ s.heap [] ls hP va_S.rf hl
theorem sn_D {y : MethodName} {b : ByteArray} {n : Nat} {As : List Value} {post : UInt64 → Mm → Prop} (hy : plainName y.cls = true) (hAs : (lg_sl As).length ≤ n) (body : ∀ κ, CX D cs ad b n y.cls fr lo 0 κ → CN ad κ → eD l D cs ad n b 0 κ post → VV l D cs ad n κ 0 M 0 (lv_args 0 As) []) (sz : Nat) : Met l y (.code y b n (some .double) :: TT) { frames := fr, cells := 0, slots := 0, locals := lo } (va_Pc As (fun U9 => U9.heap.size = sz ∧ wB D cs ad (fA ad sz) M U9 ∧ xX (fA ad sz) U9 U9.heap)) (va_Qd post (wB D cs ad (fA ad sz)) (fA ad sz)) 0 0 (fA ad sz) := by
  refine Met.ofW (cc := b) (maxL := n) (ret := (some .double)) hy rfl ?_
  intro p e s m args below meth c s₁ B hml hv
  obtain ⟨rfl, hsz, ⟨hP, hK, hD0⟩, hX⟩ := hv
  have hx := B.exec
  have hb := B.bytes
  have hr := B.returns
  have hts0 := atoms_spec (ws := .code y b n (some .double) :: TT) B.pre
  have hts : ∀ w ∈ TT, w.before As.toArray s = true := fun w hw => hts0 w (List.mem_cons_of_mem _ hw)
  have hown := findClass_of_methodNamed B.named
  have hlocks := B.notSynchronized
  subst hsz
  have hD : ∀ M, va_D (fA ad s.heap.size) (wW cs ad M) := fun M' => wD_any (fun i hi => fA_in hi) hD0 M'
  have hl := lv_entry As (n := n) hAs
  rw [lg_entry_eq]
  generalize (lg_sl As ++ List.replicate (n - (lg_sl As).length) Slot.unset).toArray = ls at hl ⊢
  refine body (p, e, _, s, m, As.toArray, below, meth, c, 0, 0, _) ⟨hx, hb, hml, hown, hts, hK, hD, rfl, rfl, Nat.le_refl _, Nat.le_refl _⟩ hX ?_ s.heap [] ls hP va_S.rf hl
  intro u M2 pc lv v hu d hpost
  obtain rfl : u = 0 := by omega
  intro H locs ls hP hS hl
  exact W.dret hx hb hr (fun t ht hW => ⟨⟨v, M2, rfl, hpost, by rw [ht]; exact hP, va_K.moved hW.alike hK, hD M2⟩, hS.F ht⟩) hS.2.2 d hlocks
/-- a method that throws -/
theorem sx_D (hfl : l.stackTraces = false) {y : MethodName} {b : ByteArray} {n : Nat} {As : List Value} {E : String} {px : Mm → Prop} (hy : plainName y.cls = true) (hAs : (lg_sl As).length ≤ n) (body : ∀ κ, CX D cs ad b n y.cls fr lo 0 κ → CN ad κ → CT l D cs ad E px κ → VV l D cs ad n κ 0 M 0 (lv_args 0 As) []) (sz : Nat) : vx_Met l y (.code y b n (some .double) :: TT) { frames := fr, cells := 1, slots := 6, locals := lo } (va_Pc As (fun U9 => U9.heap.size = sz ∧ wB D cs ad (fA ad sz) M U9 ∧ xX (fA ad sz) U9 U9.heap)) (va_Qd (fun _ (_ : Mm) => False) (wB D cs ad (fA ad sz)) (fA ad sz)) (vx_X px (fun E9 M2 t => E9 = E ∧ wB D cs ad (fA ad sz) M2 t) (fA ad sz)) 1 6 (fA ad sz) := by
  refine vx_ofW (cc := b) (maxL := n) (ret := (some .double)) hy rfl ?_
  intro p e s m args below meth c s₁ B hml htab hv
  obtain ⟨rfl, hsz, ⟨hP, hK, hD0⟩, hX⟩ := hv
  have hx := B.exec
  have hb := B.bytes
  have hr := B.returns
  have hts0 := atoms_spec (ws := .code y b n (some .double) :: TT) B.pre
  have hts : ∀ w ∈ TT, w.before As.toArray s = true := fun w hw => hts0 w (List.mem_cons_of_mem _ hw)
  have hown := findClass_of_methodNamed B.named
  have hlocks := B.notSynchronized
  subst hsz
  have hD : ∀ M, va_D (fA ad s.heap.size) (wW cs ad M) := fun M' => wD_any (fun i hi => fA_in hi) hD0 M'
  have hl := lv_entry As (n := n) hAs
  rw [lg_entry_eq]
  generalize (lg_sl As ++ List.replicate (n - (lg_sl As).length) Slot.unset).toArray = ls at hl ⊢
  exact body (p, e, _, s, m, As.toArray, below, meth, c, 0, 0, _) ⟨hx, hb, hml, hown, hts, hK, hD, rfl, rfl, Nat.zero_le _, Nat.zero_le _⟩ hX ⟨hfl, htab, hlocks, rfl, rfl, rfl, rfl, _, rfl⟩ s.heap [] ls hP va_S.rf hl
theorem sn_V {y : MethodName} {b : ByteArray} {n : Nat} {As : List Value} {post : Mm → Prop} (hy : plainName y.cls = true) (hAs : (lg_sl As).length ≤ n) (body : ∀ κ, CX D cs ad b n y.cls fr lo 0 κ → CN ad κ → eV l D cs ad n b 0 κ post → VV l D cs ad n κ 0 M 0 (lv_args 0 As) []) (sz : Nat) : Met l y (.code y b n none :: TT) { frames := fr, cells := 0, slots := 0, locals := lo } (va_Pc As (fun U9 => U9.heap.size = sz ∧ wB D cs ad (fA ad sz) M U9 ∧ xX (fA ad sz) U9 U9.heap)) (va_Qv post (wB D cs ad (fA ad sz)) (fA ad sz)) 0 0 (fA ad sz) := by
  refine Met.ofW (cc := b) (maxL := n) (ret := none) hy rfl ?_
  intro p e s m args below meth c s₁ B hml hv
  obtain ⟨rfl, hsz, ⟨hP, hK, hD0⟩, hX⟩ := hv
  have hx := B.exec
  have hb := B.bytes
  have hr := B.returns
  have hts0 := atoms_spec (ws := .code y b n none :: TT) B.pre
  have hts : ∀ w ∈ TT, w.before As.toArray s = true := fun w hw => hts0 w (List.mem_cons_of_mem _ hw)
  have hown := findClass_of_methodNamed B.named
  have hlocks := B.notSynchronized
  subst hsz
  have hD : ∀ M, va_D (fA ad s.heap.size) (wW cs ad M) := fun M' => wD_any (fun i hi => fA_in hi) hD0 M'
  have hl := lv_entry As (n := n) hAs
  rw [lg_entry_eq]
  generalize (lg_sl As ++ List.replicate (n - (lg_sl As).length) Slot.unset).toArray = ls at hl ⊢
  refine body (p, e, _, s, m, As.toArray, below, meth, c, 0, 0, _) ⟨hx, hb, hml, hown, hts, hK, hD, rfl, rfl, Nat.le_refl _, Nat.le_refl _⟩ hX ?_ s.heap [] ls hP va_S.rf hl
  intro u M2 pc lv hu d hpost
  obtain rfl : u = 0 := by omega
  intro H locs ls hP hS hl
  exact W.vret hx hb hr (fun t ht hW => ⟨⟨M2, rfl, hpost, by rw [ht]; exact hP, va_K.moved hW.alike hK, hD M2⟩, hS.F ht⟩) hS.2.2 d hlocks
/-- a method that throws -/
theorem sx_V (hfl : l.stackTraces = false) {y : MethodName} {b : ByteArray} {n : Nat} {As : List Value} {E : String} {px : Mm → Prop} (hy : plainName y.cls = true) (hAs : (lg_sl As).length ≤ n) (body : ∀ κ, CX D cs ad b n y.cls fr lo 0 κ → CN ad κ → CT l D cs ad E px κ → VV l D cs ad n κ 0 M 0 (lv_args 0 As) []) (sz : Nat) : vx_Met l y (.code y b n none :: TT) { frames := fr, cells := 1, slots := 6, locals := lo } (va_Pc As (fun U9 => U9.heap.size = sz ∧ wB D cs ad (fA ad sz) M U9 ∧ xX (fA ad sz) U9 U9.heap)) (va_Qv (fun (_ : Mm) => False) (wB D cs ad (fA ad sz)) (fA ad sz)) (vx_X px (fun E9 M2 t => E9 = E ∧ wB D cs ad (fA ad sz) M2 t) (fA ad sz)) 1 6 (fA ad sz) := by
  refine vx_ofW (cc := b) (maxL := n) (ret := none) hy rfl ?_
  intro p e s m args below meth c s₁ B hml htab hv
  obtain ⟨rfl, hsz, ⟨hP, hK, hD0⟩, hX⟩ := hv
  have hx := B.exec
  have hb := B.bytes
  have hr := B.returns
  have hts0 := atoms_spec (ws := .code y b n none :: TT) B.pre
  have hts : ∀ w ∈ TT, w.before As.toArray s = true := fun w hw => hts0 w (List.mem_cons_of_mem _ hw)
  have hown := findClass_of_methodNamed B.named
  have hlocks := B.notSynchronized
  subst hsz
  have hD : ∀ M, va_D (fA ad s.heap.size) (wW cs ad M) := fun M' => wD_any (fun i hi => fA_in hi) hD0 M'
  have hl := lv_entry As (n := n) hAs
  rw [lg_entry_eq]
  generalize (lg_sl As ++ List.replicate (n - (lg_sl As).length) Slot.unset).toArray = ls at hl ⊢
  exact body (p, e, _, s, m, As.toArray, below, meth, c, 0, 0, _) ⟨hx, hb, hml, hown, hts, hK, hD, rfl, rfl, Nat.zero_le _, Nat.zero_le _⟩ hX ⟨hfl, htab, hlocks, rfl, rfl, rfl, rfl, _, rfl⟩ s.heap [] ls hP va_S.rf hl
theorem fb_N {As : List Value} {sz : Nat} : FrameBlind (va_Pc As (fun U9 => U9.heap.size = sz ∧ wB D cs ad (fA ad sz) M U9 ∧ xX (fA ad sz) U9 U9.heap)) := fun a U g mk q => by
  obtain ⟨q0, q1, ⟨qP, qK, qD⟩, qX⟩ := q
  exact ⟨q0, q1, ⟨qP, va_K.moved (u := U) (U := U.calling g mk a) (Vm.Alike.refl U.vm) qK, qD⟩, (show xX (fA ad sz) (U.calling g mk a) U.heap from xX.same (s := U) rfl qX)⟩
theorem pr_N {s : State} {H : Heap} {As : List Value} (hK : va_K D vwCl (tyC cs) s) (hP : va_P D vwCl (wW cs ad M) H) (hD : va_D (fA ad s.heap.size) (wW cs ad M)) (hX : xX (fA ad H.size) s H) : ∀ U9 : State, U9.heap = H → s.WarmedH U9.vm → va_Pc As (fun U9 => U9.heap.size = H.size ∧ wB D cs ad (fA ad H.size) M U9 ∧ xX (fA ad H.size) U9 U9.heap) As.toArray U9 :=
  fun U9 hU hW => ⟨rfl, by rw [hU], ⟨by rw [hU]; exact hP, va_K.moved hW.alike hK, wD_any (fun i hi => fA_in hi) hD M⟩, by rw [hU]; exact hX.warm hW⟩
theorem r_ncallS_i (C : CX D cs ad cc nL own fr lo U κ) (hN : CN ad κ) (hu : u ≤ U) {y : MethodName} {b : ByteArray} {n nA idx : Nat} {rt : Option FieldType} {rm : Room} {rest : List Value} {post : Int32 → Mm → Prop} (As9 : List Value) (hM : ∀ sz, Met l y (.code y b n rt :: TT) rm (va_Pc (As9) (fun U9 => U9.heap.size = sz ∧ wB D cs ad (fA ad sz) M U9 ∧ xX (fA ad sz) U9 U9.heap)) (va_Qi post (wB D cs ad (fA ad sz)) (fA ad sz)) 0 0 (fA ad sz)) (hG : GoodIn TT (wsS own idx y (.code y b n rt :: TT))) (hrm : rm.cells = 0 ∧ rm.slots = 0) (hyd : y.cls = own ∧ y.cls ≠ "java/lang/invoke/MethodHandle" ∧ y.cls ≠ "java/lang/invoke/VarHandle" ∧ (parseMethodDescriptor y.desc).map (fun d => d.parameters.length) = some nA) (hR : rm.frames + 1 ≤ fr ∧ 8 + (n + 11) + rm.locals ≤ lo) (hn : As9.length = nA) (hst : st = As9.reverse ++ rest) (hW8 : (rest.map fun v => v.category).sum ≤ 8) (d : decode cc pc = .ok (.invokestatic idx, 3)) (k : ∀ (r : Int32) (M2 : Mm), post r M2 → VV l D cs ad nL κ u M2 (pc + 3) lv (.int r :: rest)) : VV l D cs ad nL κ u M pc lv st := by
  obtain ⟨p, e, R, s, m, args, below, meth, c, c0, s0, Q⟩ := κ
  obtain ⟨hx, hb, hml, hown, hts, hK, hD, hfr, hlo, hc0, hs0⟩ := C
  intro H locs ls hP hS hl
  subst hst
  refine va_calli (va_runS (As := As9) (rest := rest) ⟨hx, hb, hml, hown, hts⟩ (hM H.size) (cwS nA hts hG rfl hrm.1 hrm.2 hyd ⟨by rw [hfr]; exact hR.1, by rw [hlo]; exact hR.2⟩) ⟨fb_N, pr_N hK hP (hD M) (hN.now hS)⟩ rfl hn hl.1 rfl (lv_room hW8) d ⟨by omega, by omega⟩) hS (fun q _ h => fA_mono hS.1 h) (fun q h => fA_mono hS.1 h) (fun r M2 t H1 locs1 ht hvm hw hB hz1 hk1 hS1 => ?_)
  exact k r M2 hw H1 locs1 ls (by rw [← ht]; exact hB.1) hS1 hl
theorem r_npcallS_i (C : CX D cs ad cc nL own fr lo U κ) (hN : CN ad κ) (hu : u ≤ U) {y : MethodName} {b : ByteArray} {n nA idx : Nat} {rt : Option FieldType} {rm : Room} {rest : List Value} {r9 : Int32} {M9 : Mm} (As9 : List Value) (hM : ∀ sz, Met l y (.code y b n rt :: TT) rm (va_Pc (As9) (fun U9 => U9.heap.size = sz ∧ wB D cs ad (fA ad sz) M U9 ∧ xX (fA ad sz) U9 U9.heap)) (va_Qi (fun r M2 => r = r9 ∧ M2 = M9) (wB D cs ad (fA ad sz)) (fA ad sz)) 0 0 (fA ad sz)) (hG : GoodIn TT (wsS own idx y (.code y b n rt :: TT))) (hrm : rm.cells = 0 ∧ rm.slots = 0) (hyd : y.cls = own ∧ y.cls ≠ "java/lang/invoke/MethodHandle" ∧ y.cls ≠ "java/lang/invoke/VarHandle" ∧ (parseMethodDescriptor y.desc).map (fun d => d.parameters.length) = some nA) (hR : rm.frames + 1 ≤ fr ∧ 8 + (n + 11) + rm.locals ≤ lo) (hn : As9.length = nA) (hst : st = As9.reverse ++ rest) (hW8 : (rest.map fun v => v.category).sum ≤ 8) (d : decode cc pc = .ok (.invokestatic idx, 3)) (k : VV l D cs ad nL κ u M9 (pc + 3) lv (.int r9 :: rest)) : VV l D cs ad nL κ u M pc lv st := r_ncallS_i C hN hu As9 hM hG hrm hyd hR hn hst hW8 d (fun r M2 h => by obtain ⟨h1, h2⟩ := h; rw [h1, h2]; exact k)
/-- a call that throws, and this method with it -/
theorem r_xcallS_i (C : CX D cs ad cc nL own fr lo 0 κ) (hN : CN ad κ) {E : String} {px px2 : Mm → Prop} (X : CT l D cs ad E px κ) {y : MethodName} {b : ByteArray} {n nA idx : Nat} {rt : Option FieldType} {rm : Room} {rest : List Value} (As9 : List Value) (hM : ∀ sz, vx_Met l y (.code y b n rt :: TT) rm (va_Pc (As9) (fun U9 => U9.heap.size = sz ∧ wB D cs ad (fA ad sz) M U9 ∧ xX (fA ad sz) U9 U9.heap)) (va_Qi (fun _ (_ : Mm) => False) (wB D cs ad (fA ad sz)) (fA ad sz)) (vx_X px2 (fun E9 M2 t => E9 = E ∧ wB D cs ad (fA ad sz) M2 t) (fA ad sz)) 1 6 (fA ad sz)) (hG : GoodIn TT (wsS own idx y (.code y b n rt :: TT))) (hrm : rm.cells = 1 ∧ rm.slots = 6) (hyd : y.cls = own ∧ y.cls ≠ "java/lang/invoke/MethodHandle" ∧ y.cls ≠ "java/lang/invoke/VarHandle" ∧ (parseMethodDescriptor y.desc).map (fun d => d.parameters.length) = some nA) (hR : rm.frames + 1 ≤ fr ∧ 8 + (n + 11) + rm.locals ≤ lo) (hn : As9.length = nA) (hst : st = As9.reverse ++ rest) (hW8 : (rest.map fun v => v.category).sum ≤ 8) (d : decode cc pc = .ok (.invokestatic idx, 3)) (hpx : ∀ M2, px2 M2 → px M2) : VV l D cs ad nL κ 0 M pc lv st := by
  obtain ⟨p, e, R, s, m, args, below, meth, c, c0, s0, Q⟩ := κ
  obtain ⟨hx, hb, hml, hown, hts, hK, hD, hfr, hlo, hc0, hs0⟩ := C
  obtain ⟨hst9, htab, hlk, hRc, hRs, rfl, rfl, Qc, rfl⟩ := X
  intro H locs ls hP hS hl
  subst hst
  refine vx_calli (vx_runS (As := As9) (rest := rest) ⟨hx, hb, hml, hown, hts⟩ (hM H.size) (cwS nA hts hG rfl hrm.1 hrm.2 hyd ⟨by rw [hfr]; exact hR.1, by rw [hlo]; exact hR.2⟩) ⟨fb_N, pr_N hK hP (hD M) (hN.now hS)⟩ rfl hn hl.1 rfl (lv_room hW8) d ⟨by rw [hRc]; exact Nat.le_refl _, by rw [hRs]; exact Nat.le_refl _⟩) hS (fun q _ h => fA_mono hS.1 h) (fun q h => fA_mono hS.1 h) (fun q _ h => fA_mono hS.1 h) (fun E9 ce q9 M2 t H1 locs1 ht hvm hw hB hz1 hk1 hS1 hce hcv hcl => ?_) (fun r M2 t H1 locs1 ht hvm hw hB hz1 hk1 hS1 => hw.elim)
  refine vx_out (fun x h => (htab x h).elim) hlk hce hcv hcl (fun t9 ht9 hvm9 => ⟨M2, hpx M2 hw, ⟨hB.1, by rw [ht9, ← ht]; exact hB.2.1, va_K.moved hvm9 hK, hD M2⟩, hS1.F ht9⟩) hS1.2.2 (by omega) (by omega)
theorem r_ncallS2_i (C : CX D cs ad cc nL own fr lo U κ) (hN : CN ad κ) (hu : u ≤ U) {y : MethodName} {b : ByteArray} {n nA idx : Nat} {rt : Option FieldType} {rm : Room} {rest : List Value} {post : Int32 → Mm → Prop} (As9 : List Value) (hM : ∀ sz, Met l y (.code y b n rt :: TT) rm (va_Pc (As9) (fun U9 => U9.heap.size = sz ∧ wB D cs ad (fA ad sz) M U9 ∧ xX (fA ad sz) U9 U9.heap)) (va_Qi post (wB D cs ad (fA ad sz)) (fA ad sz)) 0 0 (fA ad sz)) (hG : GoodIn TT (va_wsS own idx y (.code y b n rt :: TT))) (hrm : rm.cells = 0 ∧ rm.slots = 0) (hyd : y.cls ≠ "java/lang/invoke/MethodHandle" ∧ y.cls ≠ "java/lang/invoke/VarHandle" ∧ (parseMethodDescriptor y.desc).map (fun d => d.parameters.length) = some nA) (hR : rm.frames + 1 ≤ fr ∧ 8 + (n + 11) + rm.locals ≤ lo) (hn : As9.length = nA) (hst : st = As9.reverse ++ rest) (hW8 : (rest.map fun v => v.category).sum ≤ 8) (d : decode cc pc = .ok (.invokestatic idx, 3)) (k : ∀ (r : Int32) (M2 : Mm), post r M2 → VV l D cs ad nL κ u M2 (pc + 3) lv (.int r :: rest)) : VV l D cs ad nL κ u M pc lv st := by
  obtain ⟨p, e, R, s, m, args, below, meth, c, c0, s0, Q⟩ := κ
  obtain ⟨hx, hb, hml, hown, hts, hK, hD, hfr, hlo, hc0, hs0⟩ := C
  intro H locs ls hP hS hl
  subst hst
  refine va_calli (va_runS (As := As9) (rest := rest) ⟨hx, hb, hml, hown, hts⟩ (hM H.size) (va_cwS nA hts hG rfl hrm.1 hrm.2 hyd ⟨by rw [hfr]; exact hR.1, by rw [hlo]; exact hR.2⟩) ⟨fb_N, pr_N hK hP (hD M) (hN.now hS)⟩ rfl hn hl.1 rfl (lv_room hW8) d ⟨by omega, by omega⟩) hS (fun q _ h => fA_mono hS.1 h) (fun q h => fA_mono hS.1 h) (fun r M2 t H1 locs1 ht hvm hw hB hz1 hk1 hS1 => ?_)
  exact k r M2 hw H1 locs1 ls (by rw [← ht]; exact hB.1) hS1 hl
theorem r_npcallS2_i (C : CX D cs ad cc nL own fr lo U κ) (hN : CN ad κ) (hu : u ≤ U) {y : MethodName} {b : ByteArray} {n nA idx : Nat} {rt : Option FieldType} {rm : Room} {rest : List Value} {r9 : Int32} {M9 : Mm} (As9 : List Value) (hM : ∀ sz, Met l y (.code y b n rt :: TT) rm (va_Pc (As9) (fun U9 => U9.heap.size = sz ∧ wB D cs ad (fA ad sz) M U9 ∧ xX (fA ad sz) U9 U9.heap)) (va_Qi (fun r M2 => r = r9 ∧ M2 = M9) (wB D cs ad (fA ad sz)) (fA ad sz)) 0 0 (fA ad sz)) (hG : GoodIn TT (va_wsS own idx y (.code y b n rt :: TT))) (hrm : rm.cells = 0 ∧ rm.slots = 0) (hyd : y.cls ≠ "java/lang/invoke/MethodHandle" ∧ y.cls ≠ "java/lang/invoke/VarHandle" ∧ (parseMethodDescriptor y.desc).map (fun d => d.parameters.length) = some nA) (hR : rm.frames + 1 ≤ fr ∧ 8 + (n + 11) + rm.locals ≤ lo) (hn : As9.length = nA) (hst : st = As9.reverse ++ rest) (hW8 : (rest.map fun v => v.category).sum ≤ 8) (d : decode cc pc = .ok (.invokestatic idx, 3)) (k : VV l D cs ad nL κ u M9 (pc + 3) lv (.int r9 :: rest)) : VV l D cs ad nL κ u M pc lv st := r_ncallS2_i C hN hu As9 hM hG hrm hyd hR hn hst hW8 d (fun r M2 h => by obtain ⟨h1, h2⟩ := h; rw [h1, h2]; exact k)
/-- a call that throws, and this method with it -/
theorem r_xcallS2_i (C : CX D cs ad cc nL own fr lo 0 κ) (hN : CN ad κ) {E : String} {px px2 : Mm → Prop} (X : CT l D cs ad E px κ) {y : MethodName} {b : ByteArray} {n nA idx : Nat} {rt : Option FieldType} {rm : Room} {rest : List Value} (As9 : List Value) (hM : ∀ sz, vx_Met l y (.code y b n rt :: TT) rm (va_Pc (As9) (fun U9 => U9.heap.size = sz ∧ wB D cs ad (fA ad sz) M U9 ∧ xX (fA ad sz) U9 U9.heap)) (va_Qi (fun _ (_ : Mm) => False) (wB D cs ad (fA ad sz)) (fA ad sz)) (vx_X px2 (fun E9 M2 t => E9 = E ∧ wB D cs ad (fA ad sz) M2 t) (fA ad sz)) 1 6 (fA ad sz)) (hG : GoodIn TT (va_wsS own idx y (.code y b n rt :: TT))) (hrm : rm.cells = 1 ∧ rm.slots = 6) (hyd : y.cls ≠ "java/lang/invoke/MethodHandle" ∧ y.cls ≠ "java/lang/invoke/VarHandle" ∧ (parseMethodDescriptor y.desc).map (fun d => d.parameters.length) = some nA) (hR : rm.frames + 1 ≤ fr ∧ 8 + (n + 11) + rm.locals ≤ lo) (hn : As9.length = nA) (hst : st = As9.reverse ++ rest) (hW8 : (rest.map fun v => v.category).sum ≤ 8) (d : decode cc pc = .ok (.invokestatic idx, 3)) (hpx : ∀ M2, px2 M2 → px M2) : VV l D cs ad nL κ 0 M pc lv st := by
  obtain ⟨p, e, R, s, m, args, below, meth, c, c0, s0, Q⟩ := κ
  obtain ⟨hx, hb, hml, hown, hts, hK, hD, hfr, hlo, hc0, hs0⟩ := C
  obtain ⟨hst9, htab, hlk, hRc, hRs, rfl, rfl, Qc, rfl⟩ := X
  intro H locs ls hP hS hl
  subst hst
  refine vx_calli (vx_runS (As := As9) (rest := rest) ⟨hx, hb, hml, hown, hts⟩ (hM H.size) (va_cwS nA hts hG rfl hrm.1 hrm.2 hyd ⟨by rw [hfr]; exact hR.1, by rw [hlo]; exact hR.2⟩) ⟨fb_N, pr_N hK hP (hD M) (hN.now hS)⟩ rfl hn hl.1 rfl (lv_room hW8) d ⟨by rw [hRc]; exact Nat.le_refl _, by rw [hRs]; exact Nat.le_refl _⟩) hS (fun q _ h => fA_mono hS.1 h) (fun q h => fA_mono hS.1 h) (fun q _ h => fA_mono hS.1 h) (fun E9 ce q9 M2 t H1 locs1 ht hvm hw hB hz1 hk1 hS1 hce hcv hcl => ?_) (fun r M2 t H1 locs1 ht hvm hw hB hz1 hk1 hS1 => hw.elim)
  refine vx_out (fun x h => (htab x h).elim) hlk hce hcv hcl (fun t9 ht9 hvm9 => ⟨M2, hpx M2 hw, ⟨hB.1, by rw [ht9, ← ht]; exact hB.2.1, va_K.moved hvm9 hK, hD M2⟩, hS1.F ht9⟩) hS1.2.2 (by omega) (by omega)
theorem r_ncallV_i (C : CX D cs ad cc nL own fr lo U κ) (hN : CN ad κ) (hu : u ≤ U) {y : MethodName} {b : ByteArray} {n nA idx : Nat} {rt : Option FieldType} {rm : Room} {rest : List Value} {Cn : String} {ci id : Nat} {q9 : vw_C} {fs : List Value} {post : Int32 → Mm → Prop} (As9 : List Value) (hM : ∀ sz, Met l y (.code y b n rt :: TT) rm (va_Pc (.ref (ad id) :: As9) (fun U9 => U9.heap.size = sz ∧ wB D cs ad (fA ad sz) M U9 ∧ xX (fA ad sz) U9 U9.heap)) (va_Qi post (wB D cs ad (fA ad sz)) (fA ad sz)) 0 0 (fA ad sz)) (hG : GoodIn TT (wsV own idx Cn y (.code y b n rt :: TT))) (hrm : rm.cells = 0 ∧ rm.slots = 0) (hyd : y.cls = Cn ∧ y.cls ≠ "java/lang/invoke/MethodHandle" ∧ y.cls ≠ "java/lang/invoke/VarHandle" ∧ (parseMethodDescriptor y.desc).map (fun d => d.parameters.length) = some nA) (hR : rm.frames + 1 ≤ fr ∧ 8 + (n + 11) + rm.locals ≤ lo) (hid : id < 146) (he : wF cs ad id (M.1 id) (M.2 id) = .inr (ci, fs)) (hc : vwCl[ci]? = some q9) (hq9 : q9.1 = Cn) (hn : As9.length = nA) (hst : st = As9.reverse ++ .ref (ad id) :: rest) (hW8 : (rest.map fun v => v.category).sum ≤ 8) (d : decode cc pc = .ok (.invokevirtual idx, 3)) (k : ∀ (r : Int32) (M2 : Mm), post r M2 → VV l D cs ad nL κ u M2 (pc + 3) lv (.int r :: rest)) : VV l D cs ad nL κ u M pc lv st := by
  obtain ⟨p, e, R, s, m, args, below, meth, c, c0, s0, Q⟩ := κ
  obtain ⟨hx, hb, hml, hown, hts, hK, hD, hfr, hlo, hc0, hs0⟩ := C
  intro H locs ls hP hS hl
  subst hst
  refine va_calli (va_runV (As := As9) (rest := rest) ⟨hx, hb, hml, hown, hts⟩ (hM H.size) (cwV nA hts hG rfl hrm.1 hrm.2 hyd ⟨by rw [hfr]; exact hR.1, by rw [hlo]; exact hR.2⟩) ⟨fb_N, ?_, pr_N hK hP (hD M) (hN.now hS)⟩ rfl hn hl.1 rfl (lv_room hW8) d ⟨by omega, by omega⟩) hS (fun q _ h => fA_mono hS.1 h) (fun q h => fA_mono hS.1 h) (fun r M2 t H1 locs1 ht hvm hw hB hz1 hk1 hS1 => ?_)
  · have h9 := va_recv hK hP hc (show (wW cs ad M)[id]? = _ by rw [wW_get cs ad M hid, he])
    rw [hq9] at h9
    exact h9
  · exact k r M2 hw H1 locs1 ls (by rw [← ht]; exact hB.1) hS1 hl
theorem r_npcallV_i (C : CX D cs ad cc nL own fr lo U κ) (hN : CN ad κ) (hu : u ≤ U) {y : MethodName} {b : ByteArray} {n nA idx : Nat} {rt : Option FieldType} {rm : Room} {rest : List Value} {Cn : String} {ci id : Nat} {q9 : vw_C} {fs : List Value} {r9 : Int32} {M9 : Mm} (As9 : List Value) (hM : ∀ sz, Met l y (.code y b n rt :: TT) rm (va_Pc (.ref (ad id) :: As9) (fun U9 => U9.heap.size = sz ∧ wB D cs ad (fA ad sz) M U9 ∧ xX (fA ad sz) U9 U9.heap)) (va_Qi (fun r M2 => r = r9 ∧ M2 = M9) (wB D cs ad (fA ad sz)) (fA ad sz)) 0 0 (fA ad sz)) (hG : GoodIn TT (wsV own idx Cn y (.code y b n rt :: TT))) (hrm : rm.cells = 0 ∧ rm.slots = 0) (hyd : y.cls = Cn ∧ y.cls ≠ "java/lang/invoke/MethodHandle" ∧ y.cls ≠ "java/lang/invoke/VarHandle" ∧ (parseMethodDescriptor y.desc).map (fun d => d.parameters.length) = some nA) (hR : rm.frames + 1 ≤ fr ∧ 8 + (n + 11) + rm.locals ≤ lo) (hid : id < 146) (he : wF cs ad id (M.1 id) (M.2 id) = .inr (ci, fs)) (hc : vwCl[ci]? = some q9) (hq9 : q9.1 = Cn) (hn : As9.length = nA) (hst : st = As9.reverse ++ .ref (ad id) :: rest) (hW8 : (rest.map fun v => v.category).sum ≤ 8) (d : decode cc pc = .ok (.invokevirtual idx, 3)) (k : VV l D cs ad nL κ u M9 (pc + 3) lv (.int r9 :: rest)) : VV l D cs ad nL κ u M pc lv st := r_ncallV_i C hN hu As9 hM hG hrm hyd hR hid he hc hq9 hn hst hW8 d (fun r M2 h => by obtain ⟨h1, h2⟩ := h; rw [h1, h2]; exact k)
/-- a call that throws, and this method with it -/
theorem r_xcallV_i (C : CX D cs ad cc nL own fr lo 0 κ) (hN : CN ad κ) {E : String} {px px2 : Mm → Prop} (X : CT l D cs ad E px κ) {y : MethodName} {b : ByteArray} {n nA idx : Nat} {rt : Option FieldType} {rm : Room} {rest : List Value} {Cn : String} {ci id : Nat} {q9 : vw_C} {fs : List Value} (As9 : List Value) (hM : ∀ sz, vx_Met l y (.code y b n rt :: TT) rm (va_Pc (.ref (ad id) :: As9) (fun U9 => U9.heap.size = sz ∧ wB D cs ad (fA ad sz) M U9 ∧ xX (fA ad sz) U9 U9.heap)) (va_Qi (fun _ (_ : Mm) => False) (wB D cs ad (fA ad sz)) (fA ad sz)) (vx_X px2 (fun E9 M2 t => E9 = E ∧ wB D cs ad (fA ad sz) M2 t) (fA ad sz)) 1 6 (fA ad sz)) (hG : GoodIn TT (wsV own idx Cn y (.code y b n rt :: TT))) (hrm : rm.cells = 1 ∧ rm.slots = 6) (hyd : y.cls = Cn ∧ y.cls ≠ "java/lang/invoke/MethodHandle" ∧ y.cls ≠ "java/lang/invoke/VarHandle" ∧ (parseMethodDescriptor y.desc).map (fun d => d.parameters.length) = some nA) (hR : rm.frames + 1 ≤ fr ∧ 8 + (n + 11) + rm.locals ≤ lo) (hid : id < 146) (he : wF cs ad id (M.1 id) (M.2 id) = .inr (ci, fs)) (hc : vwCl[ci]? = some q9) (hq9 : q9.1 = Cn) (hn : As9.length = nA) (hst : st = As9.reverse ++ .ref (ad id) :: rest) (hW8 : (rest.map fun v => v.category).sum ≤ 8) (d : decode cc pc = .ok (.invokevirtual idx, 3)) (hpx : ∀ M2, px2 M2 → px M2) : VV l D cs ad nL κ 0 M pc lv st := by
  obtain ⟨p, e, R, s, m, args, below, meth, c, c0, s0, Q⟩ := κ
  obtain ⟨hx, hb, hml, hown, hts, hK, hD, hfr, hlo, hc0, hs0⟩ := C
  obtain ⟨hst9, htab, hlk, hRc, hRs, rfl, rfl, Qc, rfl⟩ := X
  intro H locs ls hP hS hl
  subst hst
  refine vx_calli (vx_runV (As := As9) (rest := rest) ⟨hx, hb, hml, hown, hts⟩ (hM H.size) (cwV nA hts hG rfl hrm.1 hrm.2 hyd ⟨by rw [hfr]; exact hR.1, by rw [hlo]; exact hR.2⟩) ⟨fb_N, ?_, pr_N hK hP (hD M) (hN.now hS)⟩ rfl hn hl.1 rfl (lv_room hW8) d ⟨by rw [hRc]; exact Nat.le_refl _, by rw [hRs]; exact Nat.le_refl _⟩) hS (fun q _ h => fA_mono hS.1 h) (fun q h => fA_mono hS.1 h) (fun q _ h => fA_mono hS.1 h) (fun E9 ce q9 M2 t H1 locs1 ht hvm hw hB hz1 hk1 hS1 hce hcv hcl => ?_) (fun r M2 t H1 locs1 ht hvm hw hB hz1 hk1 hS1 => hw.elim)
  · have h9 := va_recv hK hP hc (show (wW cs ad M)[id]? = _ by rw [wW_get cs ad M hid, he])
    rw [hq9] at h9
    exact h9
  · refine vx_out (fun x h => (htab x h).elim) hlk hce hcv hcl (fun t9 ht9 hvm9 => ⟨M2, hpx M2 hw, ⟨hB.1, by rw [ht9, ← ht]; exact hB.2.1, va_K.moved hvm9 hK, hD M2⟩, hS1.F ht9⟩) hS1.2.2 (by omega) (by omega)
theorem r_ncallS_l (C : CX D cs ad cc nL own fr lo U κ) (hN : CN ad κ) (hu : u ≤ U) {y : MethodName} {b : ByteArray} {n nA idx : Nat} {rt : Option FieldType} {rm : Room} {rest : List Value} {post : Int64 → Mm → Prop} (As9 : List Value) (hM : ∀ sz, Met l y (.code y b n rt :: TT) rm (va_Pc (As9) (fun U9 => U9.heap.size = sz ∧ wB D cs ad (fA ad sz) M U9 ∧ xX (fA ad sz) U9 U9.heap)) (va_Ql post (wB D cs ad (fA ad sz)) (fA ad sz)) 0 0 (fA ad sz)) (hG : GoodIn TT (wsS own idx y (.code y b n rt :: TT))) (hrm : rm.cells = 0 ∧ rm.slots = 0) (hyd : y.cls = own ∧ y.cls ≠ "java/lang/invoke/MethodHandle" ∧ y.cls ≠ "java/lang/invoke/VarHandle" ∧ (parseMethodDescriptor y.desc).map (fun d => d.parameters.length) = some nA) (hR : rm.frames + 1 ≤ fr ∧ 8 + (n + 11) + rm.locals ≤ lo) (hn : As9.length = nA) (hst : st = As9.reverse ++ rest) (hW8 : (rest.map fun v => v.category).sum ≤ 8) (d : decode cc pc = .ok (.invokestatic idx, 3)) (k : ∀ (r : Int64) (M2 : Mm), post r M2 → VV l D cs ad nL κ u M2 (pc + 3) lv (.long r :: rest)) : VV l D cs ad nL κ u M pc lv st := by
  obtain ⟨p, e, R, s, m, args, below, meth, c, c0, s0, Q⟩ := κ
  obtain ⟨hx, hb, hml, hown, hts, hK, hD, hfr, hlo, hc0, hs0⟩ := C
  intro H locs ls hP hS hl
  subst hst
  refine va_calll (va_runS (As := As9) (rest := rest) ⟨hx, hb, hml, hown, hts⟩ (hM H.size) (cwS nA hts hG rfl hrm.1 hrm.2 hyd ⟨by rw [hfr]; exact hR.1, by rw [hlo]; exact hR.2⟩) ⟨fb_N, pr_N hK hP (hD M) (hN.now hS)⟩ rfl hn hl.1 rfl (lv_room hW8) d ⟨by omega, by omega⟩) hS (fun q _ h => fA_mono hS.1 h) (fun q h => fA_mono hS.1 h) (fun r M2 t H1 locs1 ht hvm hw hB hz1 hk1 hS1 => ?_)
  exact k r M2 hw H1 locs1 ls (by rw [← ht]; exact hB.1) hS1 hl
theorem r_npcallS_l (C : CX D cs ad cc nL own fr lo U κ) (hN : CN ad κ) (hu : u ≤ U) {y : MethodName} {b : ByteArray} {n nA idx : Nat} {rt : Option FieldType} {rm : Room} {rest : List Value} {r9 : Int64} {M9 : Mm} (As9 : List Value) (hM : ∀ sz, Met l y (.code y b n rt :: TT) rm (va_Pc (As9) (fun U9 => U9.heap.size = sz ∧ wB D cs ad (fA ad sz) M U9 ∧ xX (fA ad sz) U9 U9.heap)) (va_Ql (fun r M2 => r = r9 ∧ M2 = M9) (wB D cs ad (fA ad sz)) (fA ad sz)) 0 0 (fA ad sz)) (hG : GoodIn TT (wsS own idx y (.code y b n rt :: TT))) (hrm : rm.cells = 0 ∧ rm.slots = 0) (hyd : y.cls = own ∧ y.cls ≠ "java/lang/invoke/MethodHandle" ∧ y.cls ≠ "java/lang/invoke/VarHandle" ∧ (parseMethodDescriptor y.desc).map (fun d => d.parameters.length) = some nA) (hR : rm.frames + 1 ≤ fr ∧ 8 + (n + 11) + rm.locals ≤ lo) (hn : As9.length = nA) (hst : st = As9.reverse ++ rest) (hW8 : (rest.map fun v => v.category).sum ≤ 8) (d : decode cc pc = .ok (.invokestatic idx, 3)) (k : VV l D cs ad nL κ u M9 (pc + 3) lv (.long r9 :: rest)) : VV l D cs ad nL κ u M pc lv st := r_ncallS_l C hN hu As9 hM hG hrm hyd hR hn hst hW8 d (fun r M2 h => by obtain ⟨h1, h2⟩ := h; rw [h1, h2]; exact k)
/-- a call that throws, and this method with it -/
theorem r_xcallS_l (C : CX D cs ad cc nL own fr lo 0 κ) (hN : CN ad κ) {E : String} {px px2 : Mm → Prop} (X : CT l D cs ad E px κ) {y : MethodName} {b : ByteArray} {n nA idx : Nat} {rt : Option FieldType} {rm : Room} {rest : List Value} (As9 : List Value) (hM : ∀ sz, vx_Met l y (.code y b n rt :: TT) rm (va_Pc (As9) (fun U9 => U9.heap.size = sz ∧ wB D cs ad (fA ad sz) M U9 ∧ xX (fA ad sz) U9 U9.heap)) (va_Ql (fun _ (_ : Mm) => False) (wB D cs ad (fA ad sz)) (fA ad sz)) (vx_X px2 (fun E9 M2 t => E9 = E ∧ wB D cs ad (fA ad sz) M2 t) (fA ad sz)) 1 6 (fA ad sz)) (hG : GoodIn TT (wsS own idx y (.code y b n rt :: TT))) (hrm : rm.cells = 1 ∧ rm.slots = 6) (hyd : y.cls = own ∧ y.cls ≠ "java/lang/invoke/MethodHandle" ∧ y.cls ≠ "java/lang/invoke/VarHandle" ∧ (parseMethodDescriptor y.desc).map (fun d => d.parameters.length) = some nA) (hR : rm.frames + 1 ≤ fr ∧ 8 + (n + 11) + rm.locals ≤ lo) (hn : As9.length = nA) (hst : st = As9.reverse ++ rest) (hW8 : (rest.map fun v => v.category).sum ≤ 8) (d : decode cc pc = .ok (.invokestatic idx, 3)) (hpx : ∀ M2, px2 M2 → px M2) : VV l D cs ad nL κ 0 M pc lv st := by
  obtain ⟨p, e, R, s, m, args, below, meth, c, c0, s0, Q⟩ := κ
  obtain ⟨hx, hb, hml, hown, hts, hK, hD, hfr, hlo, hc0, hs0⟩ := C
  obtain ⟨hst9, htab, hlk, hRc, hRs, rfl, rfl, Qc, rfl⟩ := X
  intro H locs ls hP hS hl
  subst hst
  refine vx_calll (vx_runS (As := As9) (rest := rest) ⟨hx, hb, hml, hown, hts⟩ (hM H.size) (cwS nA hts hG rfl hrm.1 hrm.2 hyd ⟨by rw [hfr]; exact hR.1, by rw [hlo]; exact hR.2⟩) ⟨fb_N, pr_N hK hP (hD M) (hN.now hS)⟩ rfl hn hl.1 rfl (lv_room hW8) d ⟨by rw [hRc]; exact Nat.le_refl _, by rw [hRs]; exact Nat.le_refl _⟩) hS (fun q _ h => fA_mono hS.1 h) (fun q h => fA_mono hS.1 h) (fun q _ h => fA_mono hS.1 h) (fun E9 ce q9 M2 t H1 locs1 ht hvm hw hB hz1 hk1 hS1 hce hcv hcl => ?_) (fun r M2 t H1 locs1 ht hvm hw hB hz1 hk1 hS1 => hw.elim)
  refine vx_out (fun x h => (htab x h).elim) hlk hce hcv hcl (fun t9 ht9 hvm9 => ⟨M2, hpx M2 hw, ⟨hB.1, by rw [ht9, ← ht]; exact hB.2.1, va_K.moved hvm9 hK, hD M2⟩, hS1.F ht9⟩) hS1.2.2 (by omega) (by omega)
theorem r_ncallS2_l (C : CX D cs ad cc nL own fr lo U κ) (hN : CN ad κ) (hu : u ≤ U) {y : MethodName} {b : ByteArray} {n nA idx : Nat} {rt : Option FieldType} {rm : Room} {rest : List Value} {post : Int64 → Mm → Prop} (As9 : List Value) (hM : ∀ sz, Met l y (.code y b n rt :: TT) rm (va_Pc (As9) (fun U9 => U9.heap.size = sz ∧ wB D cs ad (fA ad sz) M U9 ∧ xX (fA ad sz) U9 U9.heap)) (va_Ql post (wB D cs ad (fA ad sz)) (fA ad sz)) 0 0 (fA ad sz)) (hG : GoodIn TT (va_wsS own idx y (.code y b n rt :: TT))) (hrm : rm.cells = 0 ∧ rm.slots = 0) (hyd : y.cls ≠ "java/lang/invoke/MethodHandle" ∧ y.cls ≠ "java/lang/invoke/VarHandle" ∧ (parseMethodDescriptor y.desc).map (fun d => d.parameters.length) = some nA) (hR : rm.frames + 1 ≤ fr ∧ 8 + (n + 11) + rm.locals ≤ lo) (hn : As9.length = nA) (hst : st = As9.reverse ++ rest) (hW8 : (rest.map fun v => v.category).sum ≤ 8) (d : decode cc pc = .ok (.invokestatic idx, 3)) (k : ∀ (r : Int64) (M2 : Mm), post r M2 → VV l D cs ad nL κ u M2 (pc + 3) lv (.long r :: rest)) : VV l D cs ad nL κ u M pc lv st := by
  obtain ⟨p, e, R, s, m, args, below, meth, c, c0, s0, Q⟩ := κ
  obtain ⟨hx, hb, hml, hown, hts, hK, hD, hfr, hlo, hc0, hs0⟩ := C
  intro H locs ls hP hS hl
  subst hst
  refine va_calll (va_runS (As := As9) (rest := rest) ⟨hx, hb, hml, hown, hts⟩ (hM H.size) (va_cwS nA hts hG rfl hrm.1 hrm.2 hyd ⟨by rw [hfr]; exact hR.1, by rw [hlo]; exact hR.2⟩) ⟨fb_N, pr_N hK hP (hD M) (hN.now hS)⟩ rfl hn hl.1 rfl (lv_room hW8) d ⟨by omega, by omega⟩) hS (fun q _ h => fA_mono hS.1 h) (fun q h => fA_mono hS.1 h) (fun r M2 t H1 locs1 ht hvm hw hB hz1 hk1 hS1 => ?_)
  exact k r M2 hw H1 locs1 ls (by rw [← ht]; exact hB.1) hS1 hl
theorem r_npcallS2_l (C : CX D cs ad cc nL own fr lo U κ) (hN : CN ad κ) (hu : u ≤ U) {y : MethodName} {b : ByteArray} {n nA idx : Nat} {rt : Option FieldType} {rm : Room} {rest : List Value} {r9 : Int64} {M9 : Mm} (As9 : List Value) (hM : ∀ sz, Met l y (.code y b n rt :: TT) rm (va_Pc (As9) (fun U9 => U9.heap.size = sz ∧ wB D cs ad (fA ad sz) M U9 ∧ xX (fA ad sz) U9 U9.heap)) (va_Ql (fun r M2 => r = r9 ∧ M2 = M9) (wB D cs ad (fA ad sz)) (fA ad sz)) 0 0 (fA ad sz)) (hG : GoodIn TT (va_wsS own idx y (.code y b n rt :: TT))) (hrm : rm.cells = 0 ∧ rm.slots = 0) (hyd : y.cls ≠ "java/lang/invoke/MethodHandle" ∧ y.cls ≠ "java/lang/invoke/VarHandle" ∧ (parseMethodDescriptor y.desc).map (fun d => d.parameters.length) = some nA) (hR : rm.frames + 1 ≤ fr ∧ 8 + (n + 11) + rm.locals ≤ lo) (hn : As9.length = nA) (hst : st = As9.reverse ++ rest) (hW8 : (rest.map fun v => v.category).sum ≤ 8) (d : decode cc pc = .ok (.invokestatic idx, 3)) (k : VV l D cs ad nL κ u M9 (pc + 3) lv (.long r9 :: rest)) : VV l D cs ad nL κ u M pc lv st := r_ncallS2_l C hN hu As9 hM hG hrm hyd hR hn hst hW8 d (fun r M2 h => by obtain ⟨h1, h2⟩ := h; rw [h1, h2]; exact k)
/-- a call that throws, and this method with it -/
theorem r_xcallS2_l (C : CX D cs ad cc nL own fr lo 0 κ) (hN : CN ad κ) {E : String} {px px2 : Mm → Prop} (X : CT l D cs ad E px κ) {y : MethodName} {b : ByteArray} {n nA idx : Nat} {rt : Option FieldType} {rm : Room} {rest : List Value} (As9 : List Value) (hM : ∀ sz, vx_Met l y (.code y b n rt :: TT) rm (va_Pc (As9) (fun U9 => U9.heap.size = sz ∧ wB D cs ad (fA ad sz) M U9 ∧ xX (fA ad sz) U9 U9.heap)) (va_Ql (fun _ (_ : Mm) => False) (wB D cs ad (fA ad sz)) (fA ad sz)) (vx_X px2 (fun E9 M2 t => E9 = E ∧ wB D cs ad (fA ad sz) M2 t) (fA ad sz)) 1 6 (fA ad sz)) (hG : GoodIn TT (va_wsS own idx y (.code y b n rt :: TT))) (hrm : rm.cells = 1 ∧ rm.slots = 6) (hyd : y.cls ≠ "java/lang/invoke/MethodHandle" ∧ y.cls ≠ "java/lang/invoke/VarHandle" ∧ (parseMethodDescriptor y.desc).map (fun d => d.parameters.length) = some nA) (hR : rm.frames + 1 ≤ fr ∧ 8 + (n + 11) + rm.locals ≤ lo) (hn : As9.length = nA) (hst : st = As9.reverse ++ rest) (hW8 : (rest.map fun v => v.category).sum ≤ 8) (d : decode cc pc = .ok (.invokestatic idx, 3)) (hpx : ∀ M2, px2 M2 → px M2) : VV l D cs ad nL κ 0 M pc lv st := by
  obtain ⟨p, e, R, s, m, args, below, meth, c, c0, s0, Q⟩ := κ
  obtain ⟨hx, hb, hml, hown, hts, hK, hD, hfr, hlo, hc0, hs0⟩ := C
  obtain ⟨hst9, htab, hlk, hRc, hRs, rfl, rfl, Qc, rfl⟩ := X
  intro H locs ls hP hS hl
  subst hst
  refine vx_calll (vx_runS (As := As9) (rest := rest) ⟨hx, hb, hml, hown, hts⟩ (hM H.size) (va_cwS nA hts hG rfl hrm.1 hrm.2 hyd ⟨by rw [hfr]; exact hR.1, by rw [hlo]; exact hR.2⟩) ⟨fb_N, pr_N hK hP (hD M) (hN.now hS)⟩ rfl hn hl.1 rfl (lv_room hW8) d ⟨by rw [hRc]; exact Nat.le_refl _, by rw [hRs]; exact Nat.le_refl _⟩) hS (fun q _ h => fA_mono hS.1 h) (fun q h => fA_mono hS.1 h) (fun q _ h => fA_mono hS.1 h) (fun E9 ce q9 M2 t H1 locs1 ht hvm hw hB hz1 hk1 hS1 hce hcv hcl => ?_) (fun r M2 t H1 locs1 ht hvm hw hB hz1 hk1 hS1 => hw.elim)
  refine vx_out (fun x h => (htab x h).elim) hlk hce hcv hcl (fun t9 ht9 hvm9 => ⟨M2, hpx M2 hw, ⟨hB.1, by rw [ht9, ← ht]; exact hB.2.1, va_K.moved hvm9 hK, hD M2⟩, hS1.F ht9⟩) hS1.2.2 (by omega) (by omega)
theorem r_ncallV_l (C : CX D cs ad cc nL own fr lo U κ) (hN : CN ad κ) (hu : u ≤ U) {y : MethodName} {b : ByteArray} {n nA idx : Nat} {rt : Option FieldType} {rm : Room} {rest : List Value} {Cn : String} {ci id : Nat} {q9 : vw_C} {fs : List Value} {post : Int64 → Mm → Prop} (As9 : List Value) (hM : ∀ sz, Met l y (.code y b n rt :: TT) rm (va_Pc (.ref (ad id) :: As9) (fun U9 => U9.heap.size = sz ∧ wB D cs ad (fA ad sz) M U9 ∧ xX (fA ad sz) U9 U9.heap)) (va_Ql post (wB D cs ad (fA ad sz)) (fA ad sz)) 0 0 (fA ad sz)) (hG : GoodIn TT (wsV own idx Cn y (.code y b n rt :: TT))) (hrm : rm.cells = 0 ∧ rm.slots = 0) (hyd : y.cls = Cn ∧ y.cls ≠ "java/lang/invoke/MethodHandle" ∧ y.cls ≠ "java/lang/invoke/VarHandle" ∧ (parseMethodDescriptor y.desc).map (fun d => d.parameters.length) = some nA) (hR : rm.frames + 1 ≤ fr ∧ 8 + (n + 11) + rm.locals ≤ lo) (hid : id < 146) (he : wF cs ad id (M.1 id) (M.2 id) = .inr (ci, fs)) (hc : vwCl[ci]? = some q9) (hq9 : q9.1 = Cn) (hn : As9.length = nA) (hst : st = As9.reverse ++ .ref (ad id) :: rest) (hW8 : (rest.map fun v => v.category).sum ≤ 8) (d : decode cc pc = .ok (.invokevirtual idx, 3)) (k : ∀ (r : Int64) (M2 : Mm), post r M2 → VV l D cs ad nL κ u M2 (pc + 3) lv (.long r :: rest)) : VV l D cs ad nL κ u M pc lv st := by
  obtain ⟨p, e, R, s, m, args, below, meth, c, c0, s0, Q⟩ := κ
  obtain ⟨hx, hb, hml, hown, hts, hK, hD, hfr, hlo, hc0, hs0⟩ := C
  intro H locs ls hP hS hl
  subst hst
  refine va_calll (va_runV (As := As9) (rest := rest) ⟨hx, hb, hml, hown, hts⟩ (hM H.size) (cwV nA hts hG rfl hrm.1 hrm.2 hyd ⟨by rw [hfr]; exact hR.1, by rw [hlo]; exact hR.2⟩) ⟨fb_N, ?_, pr_N hK hP (hD M) (hN.now hS)⟩ rfl hn hl.1 rfl (lv_room hW8) d ⟨by omega, by omega⟩) hS (fun q _ h => fA_mono hS.1 h) (fun q h => fA_mono hS.1 h) (fun r M2 t H1 locs1 ht hvm hw hB hz1 hk1 hS1 => ?_)
  · have h9 := va_recv hK hP hc (show (wW cs ad M)[id]? = _ by rw [wW_get cs ad M hid, he])
    rw [hq9] at h9
    exact h9
  · exact k r M2 hw H1 locs1 ls (by rw [← ht]; exact hB.1) hS1 hl
theorem r_npcallV_l (C : CX D cs ad cc nL own fr lo U κ) (hN : CN ad κ) (hu : u ≤ U) {y : MethodName} {b : ByteArray} {n nA idx : Nat} {rt : Option FieldType} {rm : Room} {rest : List Value} {Cn : String} {ci id : Nat} {q9 : vw_C} {fs : List Value} {r9 : Int64} {M9 : Mm} (As9 : List Value) (hM : ∀ sz, Met l y (.code y b n rt :: TT) rm (va_Pc (.ref (ad id) :: As9) (fun U9 => U9.heap.size = sz ∧ wB D cs ad (fA ad sz) M U9 ∧ xX (fA ad sz) U9 U9.heap)) (va_Ql (fun r M2 => r = r9 ∧ M2 = M9) (wB D cs ad (fA ad sz)) (fA ad sz)) 0 0 (fA ad sz)) (hG : GoodIn TT (wsV own idx Cn y (.code y b n rt :: TT))) (hrm : rm.cells = 0 ∧ rm.slots = 0) (hyd : y.cls = Cn ∧ y.cls ≠ "java/lang/invoke/MethodHandle" ∧ y.cls ≠ "java/lang/invoke/VarHandle" ∧ (parseMethodDescriptor y.desc).map (fun d => d.parameters.length) = some nA) (hR : rm.frames + 1 ≤ fr ∧ 8 + (n + 11) + rm.locals ≤ lo) (hid : id < 146) (he : wF cs ad id (M.1 id) (M.2 id) = .inr (ci, fs)) (hc : vwCl[ci]? = some q9) (hq9 : q9.1 = Cn) (hn : As9.length = nA) (hst : st = As9.reverse ++ .ref (ad id) :: rest) (hW8 : (rest.map fun v => v.category).sum ≤ 8) (d : decode cc pc = .ok (.invokevirtual idx, 3)) (k : VV l D cs ad nL κ u M9 (pc + 3) lv (.long r9 :: rest)) : VV l D cs ad nL κ u M pc lv st := r_ncallV_l C hN hu As9 hM hG hrm hyd hR hid he hc hq9 hn hst hW8 d (fun r M2 h => by obtain ⟨h1, h2⟩ := h; rw [h1, h2]; exact k)
/-- a call that throws, and this method with it -/
theorem r_xcallV_l (C : CX D cs ad cc nL own fr lo 0 κ) (hN : CN ad κ) {E : String} {px px2 : Mm → Prop} (X : CT l D cs ad E px κ) {y : MethodName} {b : ByteArray} {n nA idx : Nat} {rt : Option FieldType} {rm : Room} {rest : List Value} {Cn : String} {ci id : Nat} {q9 : vw_C} {fs : List Value} (As9 : List Value) (hM : ∀ sz, vx_Met l y (.code y b n rt :: TT) rm (va_Pc (.ref (ad id) :: As9) (fun U9 => U9.heap.size = sz ∧ wB D cs ad (fA ad sz) M U9 ∧ xX (fA ad sz) U9 U9.heap)) (va_Ql (fun _ (_ : Mm) => False) (wB D cs ad (fA ad sz)) (fA ad sz)) (vx_X px2 (fun E9 M2 t => E9 = E ∧ wB D cs ad (fA ad sz) M2 t) (fA ad sz)) 1 6 (fA ad sz)) (hG : GoodIn TT (wsV own idx Cn y (.code y b n rt :: TT))) (hrm : rm.cells = 1 ∧ rm.slots = 6) (hyd : y.cls = Cn ∧ y.cls ≠ "java/lang/invoke/MethodHandle" ∧ y.cls ≠ "java/lang/invoke/VarHandle" ∧ (parseMethodDescriptor y.desc).map (fun d => d.parameters.length) = some nA) (hR : rm.frames + 1 ≤ fr ∧ 8 + (n + 11) + rm.locals ≤ lo) (hid : id < 146) (he : wF cs ad id (M.1 id) (M.2 id) = .inr (ci, fs)) (hc : vwCl[ci]? = some q9) (hq9 : q9.1 = Cn) (hn : As9.length = nA) (hst : st = As9.reverse ++ .ref (ad id) :: rest) (hW8 : (rest.map fun v => v.category).sum ≤ 8) (d : decode cc pc = .ok (.invokevirtual idx, 3)) (hpx : ∀ M2, px2 M2 → px M2) : VV l D cs ad nL κ 0 M pc lv st := by
  obtain ⟨p, e, R, s, m, args, below, meth, c, c0, s0, Q⟩ := κ
  obtain ⟨hx, hb, hml, hown, hts, hK, hD, hfr, hlo, hc0, hs0⟩ := C
  obtain ⟨hst9, htab, hlk, hRc, hRs, rfl, rfl, Qc, rfl⟩ := X
  intro H locs ls hP hS hl
  subst hst
  refine vx_calll (vx_runV (As := As9) (rest := rest) ⟨hx, hb, hml, hown, hts⟩ (hM H.size) (cwV nA hts hG rfl hrm.1 hrm.2 hyd ⟨by rw [hfr]; exact hR.1, by rw [hlo]; exact hR.2⟩) ⟨fb_N, ?_, pr_N hK hP (hD M) (hN.now hS)⟩ rfl hn hl.1 rfl (lv_room hW8) d ⟨by rw [hRc]; exact Nat.le_refl _, by rw [hRs]; exact Nat.le_refl _⟩) hS (fun q _ h => fA_mono hS.1 h) (fun q h => fA_mono hS.1 h) (fun q _ h => fA_mono hS.1 h) (fun E9 ce q9 M2 t H1 locs1 ht hvm hw hB hz1 hk1 hS1 hce hcv hcl => ?_) (fun r M2 t H1 locs1 ht hvm hw hB hz1 hk1 hS1 => hw.elim)
  · have h9 := va_recv hK hP hc (show (wW cs ad M)[id]? = _ by rw [wW_get cs ad M hid, he])
    rw [hq9] at h9
    exact h9
  · refine vx_out (fun x h => (htab x h).elim) hlk hce hcv hcl (fun t9 ht9 hvm9 => ⟨M2, hpx M2 hw, ⟨hB.1, by rw [ht9, ← ht]; exact hB.2.1, va_K.moved hvm9 hK, hD M2⟩, hS1.F ht9⟩) hS1.2.2 (by omega) (by omega)
theorem r_ncallS_d (C : CX D cs ad cc nL own fr lo U κ) (hN : CN ad κ) (hu : u ≤ U) {y : MethodName} {b : ByteArray} {n nA idx : Nat} {rt : Option FieldType} {rm : Room} {rest : List Value} {post : UInt64 → Mm → Prop} (As9 : List Value) (hM : ∀ sz, Met l y (.code y b n rt :: TT) rm (va_Pc (As9) (fun U9 => U9.heap.size = sz ∧ wB D cs ad (fA ad sz) M U9 ∧ xX (fA ad sz) U9 U9.heap)) (va_Qd post (wB D cs ad (fA ad sz)) (fA ad sz)) 0 0 (fA ad sz)) (hG : GoodIn TT (wsS own idx y (.code y b n rt :: TT))) (hrm : rm.cells = 0 ∧ rm.slots = 0) (hyd : y.cls = own ∧ y.cls ≠ "java/lang/invoke/MethodHandle" ∧ y.cls ≠ "java/lang/invoke/VarHandle" ∧ (parseMethodDescriptor y.desc).map (fun d => d.parameters.length) = some nA) (hR : rm.frames + 1 ≤ fr ∧ 8 + (n + 11) + rm.locals ≤ lo) (hn : As9.length = nA) (hst : st = As9.reverse ++ rest) (hW8 : (rest.map fun v => v.category).sum ≤ 8) (d : decode cc pc = .ok (.invokestatic idx, 3)) (k : ∀ (r : UInt64) (M2 : Mm), post r M2 → VV l D cs ad nL κ u M2 (pc + 3) lv (.double r :: rest)) : VV l D cs ad nL κ u M pc lv st := by
  obtain ⟨p, e, R, s, m, args, below, meth, c, c0, s0, Q⟩ := κ
  obtain ⟨hx, hb, hml, hown, hts, hK, hD, hfr, hlo, hc0, hs0⟩ := C
  intro H locs ls hP hS hl
  subst hst
  refine va_calld (va_runS (As := As9) (rest := rest) ⟨hx, hb, hml, hown, hts⟩ (hM H.size) (cwS nA hts hG rfl hrm.1 hrm.2 hyd ⟨by rw [hfr]; exact hR.1, by rw [hlo]; exact hR.2⟩) ⟨fb_N, pr_N hK hP (hD M) (hN.now hS)⟩ rfl hn hl.1 rfl (lv_room hW8) d ⟨by omega, by omega⟩) hS (fun q _ h => fA_mono hS.1 h) (fun q h => fA_mono hS.1 h) (fun r M2 t H1 locs1 ht hvm hw hB hz1 hk1 hS1 => ?_)
  exact k r M2 hw H1 locs1 ls (by rw [← ht]; exact hB.1) hS1 hl
theorem r_npcallS_d (C : CX D cs ad cc nL own fr lo U κ) (hN : CN ad κ) (hu : u ≤ U) {y : MethodName} {b : ByteArray} {n nA idx : Nat} {rt : Option FieldType} {rm : Room} {rest : List Value} {r9 : UInt64} {M9 : Mm} (As9 : List Value) (hM : ∀ sz, Met l y (.code y b n rt :: TT) rm (va_Pc (As9) (fun U9 => U9.heap.size = sz ∧ wB D cs ad (fA ad sz) M U9 ∧ xX (fA ad sz) U9 U9.heap)) (va_Qd (fun r M2 => r = r9 ∧ M2 = M9) (wB D cs ad (fA ad sz)) (fA ad sz)) 0 0 (fA ad sz)) (hG : GoodIn TT (wsS own idx y (.code y b n rt :: TT))) (hrm : rm.cells = 0 ∧ rm.slots = 0) (hyd : y.cls = own ∧ y.cls ≠ "java/lang/invoke/MethodHandle" ∧ y.cls ≠ "java/lang/invoke/VarHandle" ∧ (parseMethodDescriptor y.desc).map (fun d => d.parameters.length) = some nA) (hR : rm.frames + 1 ≤ fr ∧ 8 + (n + 11) + rm.locals ≤ lo) (hn : As9.length = nA) (hst : st = As9.reverse ++ rest) (hW8 : (rest.map fun v => v.category).sum ≤ 8) (d : decode cc pc = .ok (.invokestatic idx, 3)) (k : VV l D cs ad nL κ u M9 (pc + 3) lv (.double r9 :: rest)) : VV l D cs ad nL κ u M pc lv st := r_ncallS_d C hN hu As9 hM hG hrm hyd hR hn hst hW8 d (fun r M2 h => by obtain ⟨h1, h2⟩ := h; rw [h1, h2]; exact k)
/-- a call that throws, and this method with it -/
theorem r_xcallS_d (C : CX D cs ad cc nL own fr lo 0 κ) (hN : CN ad κ) {E : String} {px px2 : Mm → Prop} (X : CT l D cs ad E px κ) {y : MethodName} {b : ByteArray} {n nA idx : Nat} {rt : Option FieldType} {rm : Room} {rest : List Value} (As9 : List Value) (hM : ∀ sz, vx_Met l y (.code y b n rt :: TT) rm (va_Pc (As9) (fun U9 => U9.heap.size = sz ∧ wB D cs ad (fA ad sz) M U9 ∧ xX (fA ad sz) U9 U9.heap)) (va_Qd (fun _ (_ : Mm) => False) (wB D cs ad (fA ad sz)) (fA ad sz)) (vx_X px2 (fun E9 M2 t => E9 = E ∧ wB D cs ad (fA ad sz) M2 t) (fA ad sz)) 1 6 (fA ad sz)) (hG : GoodIn TT (wsS own idx y (.code y b n rt :: TT))) (hrm : rm.cells = 1 ∧ rm.slots = 6) (hyd : y.cls = own ∧ y.cls ≠ "java/lang/invoke/MethodHandle" ∧ y.cls ≠ "java/lang/invoke/VarHandle" ∧ (parseMethodDescriptor y.desc).map (fun d => d.parameters.length) = some nA) (hR : rm.frames + 1 ≤ fr ∧ 8 + (n + 11) + rm.locals ≤ lo) (hn : As9.length = nA) (hst : st = As9.reverse ++ rest) (hW8 : (rest.map fun v => v.category).sum ≤ 8) (d : decode cc pc = .ok (.invokestatic idx, 3)) (hpx : ∀ M2, px2 M2 → px M2) : VV l D cs ad nL κ 0 M pc lv st := by
  obtain ⟨p, e, R, s, m, args, below, meth, c, c0, s0, Q⟩ := κ
  obtain ⟨hx, hb, hml, hown, hts, hK, hD, hfr, hlo, hc0, hs0⟩ := C
  obtain ⟨hst9, htab, hlk, hRc, hRs, rfl, rfl, Qc, rfl⟩ := X
  intro H locs ls hP hS hl
  subst hst
  refine vx_calld (vx_runS (As := As9) (rest := rest) ⟨hx, hb, hml, hown, hts⟩ (hM H.size) (cwS nA hts hG rfl hrm.1 hrm.2 hyd ⟨by rw [hfr]; exact hR.1, by rw [hlo]; exact hR.2⟩) ⟨fb_N, pr_N hK hP (hD M) (hN.now hS)⟩ rfl hn hl.1 rfl (lv_room hW8) d ⟨by rw [hRc]; exact Nat.le_refl _, by rw [hRs]; exact Nat.le_refl _⟩) hS (fun q _ h => fA_mono hS.1 h) (fun q h => fA_mono hS.1 h) (fun q _ h => fA_mono hS.1 h) (fun E9 ce q9 M2 t H1 locs1 ht hvm hw hB hz1 hk1 hS1 hce hcv hcl => ?_) (fun r M2 t H1 locs1 ht hvm hw hB hz1 hk1 hS1 => hw.elim)
  refine vx_out (fun x h => (htab x h).elim) hlk hce hcv hcl (fun t9 ht9 hvm9 => ⟨M2, hpx M2 hw, ⟨hB.1, by rw [ht9, ← ht]; exact hB.2.1, va_K.moved hvm9 hK, hD M2⟩, hS1.F ht9⟩) hS1.2.2 (by omega) (by omega)
theorem r_ncallS2_d (C : CX D cs ad cc nL own fr lo U κ) (hN : CN ad κ) (hu : u ≤ U) {y : MethodName} {b : ByteArray} {n nA idx : Nat} {rt : Option FieldType} {rm : Room} {rest : List Value} {post : UInt64 → Mm → Prop} (As9 : List Value) (hM : ∀ sz, Met l y (.code y b n rt :: TT) rm (va_Pc (As9) (fun U9 => U9.heap.size = sz ∧ wB D cs ad (fA ad sz) M U9 ∧ xX (fA ad sz) U9 U9.heap)) (va_Qd post (wB D cs ad (fA ad sz)) (fA ad sz)) 0 0 (fA ad sz)) (hG : GoodIn TT (va_wsS own idx y (.code y b n rt :: TT))) (hrm : rm.cells = 0 ∧ rm.slots = 0) (hyd : y.cls ≠ "java/lang/invoke/MethodHandle" ∧ y.cls ≠ "java/lang/invoke/VarHandle" ∧ (parseMethodDescriptor y.desc).map (fun d => d.parameters.length) = some nA) (hR : rm.frames + 1 ≤ fr ∧ 8 + (n + 11) + rm.locals ≤ lo) (hn : As9.length = nA) (hst : st = As9.reverse ++ rest) (hW8 : (rest.map fun v => v.category).sum ≤ 8) (d : decode cc pc = .ok (.invokestatic idx, 3)) (k : ∀ (r : UInt64) (M2 : Mm), post r M2 → VV l D cs ad nL κ u M2 (pc + 3) lv (.double r :: rest)) : VV l D cs ad nL κ u M pc lv st := by
  obtain ⟨p, e, R, s, m, args, below, meth, c, c0, s0, Q⟩ := κ
  obtain ⟨hx, hb, hml, hown, hts, hK, hD, hfr, hlo, hc0, hs0⟩ := C
  intro H locs ls hP hS hl
  subst hst
  refine va_calld (va_runS (As := As9) (rest := rest) ⟨hx, hb, hml, hown, hts⟩ (hM H.size) (va_cwS nA hts hG rfl hrm.1 hrm.2 hyd ⟨by rw [hfr]; exact hR.1, by rw [hlo]; exact hR.2⟩) ⟨fb_N, pr_N hK hP (hD M) (hN.now hS)⟩ rfl hn hl.1 rfl (lv_room hW8) d ⟨by omega, by omega⟩) hS (fun q _ h => fA_mono hS.1 h) (fun q h => fA_mono hS.1 h) (fun r M2 t H1 locs1 ht hvm hw hB hz1 hk1 hS1 => ?_)
  exact k r M2 hw H1 locs1 ls (by rw [← ht]; exact hB.1) hS1 hl
theorem r_npcallS2_d (C : CX D cs ad cc nL own fr lo U κ) (hN : CN ad κ) (hu : u ≤ U) {y : MethodName} {b : ByteArray} {n nA idx : Nat} {rt : Option FieldType} {rm : Room} {rest : List Value} {r9 : UInt64} {M9 : Mm} (As9 : List Value) (hM : ∀ sz, Met l y (.code y b n rt :: TT) rm (va_Pc (As9) (fun U9 => U9.heap.size = sz ∧ wB D cs ad (fA ad sz) M U9 ∧ xX (fA ad sz) U9 U9.heap)) (va_Qd (fun r M2 => r = r9 ∧ M2 = M9) (wB D cs ad (fA ad sz)) (fA ad sz)) 0 0 (fA ad sz)) (hG : GoodIn TT (va_wsS own idx y (.code y b n rt :: TT))) (hrm : rm.cells = 0 ∧ rm.slots = 0) (hyd : y.cls ≠ "java/lang/invoke/MethodHandle" ∧ y.cls ≠ "java/lang/invoke/VarHandle" ∧ (parseMethodDescriptor y.desc).map (fun d => d.parameters.length) = some nA) (hR : rm.frames + 1 ≤ fr ∧ 8 + (n + 11) + rm.locals ≤ lo) (hn : As9.length = nA) (hst : st = As9.reverse ++ rest) (hW8 : (rest.map fun v => v.category).sum ≤ 8) (d : decode cc pc = .ok (.invokestatic idx, 3)) (k : VV l D cs ad nL κ u M9 (pc + 3) lv (.double r9 :: rest)) : VV l D cs ad nL κ u M pc lv st := r_ncallS2_d C hN hu As9 hM hG hrm hyd hR hn hst hW8 d (fun r M2 h => by obtain ⟨h1, h2⟩ := h; rw [h1, h2]; exact k)
/-- a call that throws, and this method with it -/
theorem r_xcallS2_d (C : CX D cs ad cc nL own fr lo 0 κ) (hN : CN ad κ) {E : String} {px px2 : Mm → Prop} (X : CT l D cs ad E px κ) {y : MethodName} {b : ByteArray} {n nA idx : Nat} {rt : Option FieldType} {rm : Room} {rest : List Value} (As9 : List Value) (hM : ∀ sz, vx_Met l y (.code y b n rt :: TT) rm (va_Pc (As9) (fun U9 => U9.heap.size = sz ∧ wB D cs ad (fA ad sz) M U9 ∧ xX (fA ad sz) U9 U9.heap)) (va_Qd (fun _ (_ : Mm) => False) (wB D cs ad (fA ad sz)) (fA ad sz)) (vx_X px2 (fun E9 M2 t => E9 = E ∧ wB D cs ad (fA ad sz) M2 t) (fA ad sz)) 1 6 (fA ad sz)) (hG : GoodIn TT (va_wsS own idx y (.code y b n rt :: TT))) (hrm : rm.cells = 1 ∧ rm.slots = 6) (hyd : y.cls ≠ "java/lang/invoke/MethodHandle" ∧ y.cls ≠ "java/lang/invoke/VarHandle" ∧ (parseMethodDescriptor y.desc).map (fun d => d.parameters.length) = some nA) (hR : rm.frames + 1 ≤ fr ∧ 8 + (n + 11) + rm.locals ≤ lo) (hn : As9.length = nA) (hst : st = As9.reverse ++ rest) (hW8 : (rest.map fun v => v.category).sum ≤ 8) (d : decode cc pc = .ok (.invokestatic idx, 3)) (hpx : ∀ M2, px2 M2 → px M2) : VV l D cs ad nL κ 0 M pc lv st := by
  obtain ⟨p, e, R, s, m, args, below, meth, c, c0, s0, Q⟩ := κ
  obtain ⟨hx, hb, hml, hown, hts, hK, hD, hfr, hlo, hc0, hs0⟩ := C
  obtain ⟨hst9, htab, hlk, hRc, hRs, rfl, rfl, Qc, rfl⟩ := X
  intro H locs ls hP hS hl
  subst hst
  refine vx_calld (vx_runS (As := As9) (rest := rest) ⟨hx, hb, hml, hown, hts⟩ (hM H.size) (va_cwS nA hts hG rfl hrm.1 hrm.2 hyd ⟨by rw [hfr]; exact hR.1, by rw [hlo]; exact hR.2⟩) ⟨fb_N, pr_N hK hP (hD M) (hN.now hS)⟩ rfl hn hl.1 rfl (lv_room hW8) d ⟨by rw [hRc]; exact Nat.le_refl _, by rw [hRs]; exact Nat.le_refl _⟩) hS (fun q _ h => fA_mono hS.1 h) (fun q h => fA_mono hS.1 h) (fun q _ h => fA_mono hS.1 h) (fun E9 ce q9 M2 t H1 locs1 ht hvm hw hB hz1 hk1 hS1 hce hcv hcl => ?_) (fun r M2 t H1 locs1 ht hvm hw hB hz1 hk1 hS1 => hw.elim)
  refine vx_out (fun x h => (htab x h).elim) hlk hce hcv hcl (fun t9 ht9 hvm9 => ⟨M2, hpx M2 hw, ⟨hB.1, by rw [ht9, ← ht]; exact hB.2.1, va_K.moved hvm9 hK, hD M2⟩, hS1.F ht9⟩) hS1.2.2 (by omega) (by omega)
theorem r_ncallV_d (C : CX D cs ad cc nL own fr lo U κ) (hN : CN ad κ) (hu : u ≤ U) {y : MethodName} {b : ByteArray} {n nA idx : Nat} {rt : Option FieldType} {rm : Room} {rest : List Value} {Cn : String} {ci id : Nat} {q9 : vw_C} {fs : List Value} {post : UInt64 → Mm → Prop} (As9 : List Value) (hM : ∀ sz, Met l y (.code y b n rt :: TT) rm (va_Pc (.ref (ad id) :: As9) (fun U9 => U9.heap.size = sz ∧ wB D cs ad (fA ad sz) M U9 ∧ xX (fA ad sz) U9 U9.heap)) (va_Qd post (wB D cs ad (fA ad sz)) (fA ad sz)) 0 0 (fA ad sz)) (hG : GoodIn TT (wsV own idx Cn y (.code y b n rt :: TT))) (hrm : rm.cells = 0 ∧ rm.slots = 0) (hyd : y.cls = Cn ∧ y.cls ≠ "java/lang/invoke/MethodHandle" ∧ y.cls ≠ "java/lang/invoke/VarHandle" ∧ (parseMethodDescriptor y.desc).map (fun d => d.parameters.length) = some nA) (hR : rm.frames + 1 ≤ fr ∧ 8 + (n + 11) + rm.locals ≤ lo) (hid : id < 146) (he : wF cs ad id (M.1 id) (M.2 id) = .inr (ci, fs)) (hc : vwCl[ci]? = some q9) (hq9 : q9.1 = Cn) (hn : As9.length = nA) (hst : st = As9.reverse ++ .ref (ad id) :: rest) (hW8 : (rest.map fun v => v.category).sum ≤ 8) (d : decode cc pc = .ok (.invokevirtual idx, 3)) (k : ∀ (r : UInt64) (M2 : Mm), post r M2 → VV l D cs ad nL κ u M2 (pc + 3) lv (.double r :: rest)) : VV l D cs ad nL κ u M pc lv st := by
  obtain ⟨p, e, R, s, m, args, below, meth, c, c0, s0, Q⟩ := κ
  obtain ⟨hx, hb, hml, hown, hts, hK, hD, hfr, hlo, hc0, hs0⟩ := C
  intro H locs ls hP hS hl
  subst hst
  refine va_calld (va_runV (As := As9) (rest := rest) ⟨hx, hb, hml, hown, hts⟩ (hM H.size) (cwV nA hts hG rfl hrm.1 hrm.2 hyd ⟨by rw [hfr]; exact hR.1, by rw [hlo]; exact hR.2⟩) ⟨fb_N, ?_, pr_N hK hP (hD M) (hN.now hS)⟩ rfl hn hl.1 rfl (lv_room hW8) d ⟨by omega, by omega⟩) hS (fun q _ h => fA_mono hS.1 h) (fun q h => fA_mono hS.1 h) (fun r M2 t H1 locs1 ht hvm hw hB hz1 hk1 hS1 => ?_)
  · have h9 := va_recv hK hP hc (show (wW cs ad M)[id]? = _ by rw [wW_get cs ad M hid, he])
    rw [hq9] at h9
    exact h9
  · exact k r M2 hw H1 locs1 ls (by rw [← ht]; exact hB.1) hS1 hl
theorem r_npcallV_d (C : CX D cs ad cc nL own fr lo U κ) (hN : CN ad κ) (hu : u ≤ U) {y : MethodName} {b : ByteArray} {n nA idx : Nat} {rt : Option FieldType} {rm : Room} {rest : List Value} {Cn : String} {ci id : Nat} {q9 : vw_C} {fs : List Value} {r9 : UInt64} {M9 : Mm} (As9 : List Value) (hM : ∀ sz, Met l y (.code y b n rt :: TT) rm (va_Pc (.ref (ad id) :: As9) (fun U9 => U9.heap.size = sz ∧ wB D cs ad (fA ad sz) M U9 ∧ xX (fA ad sz) U9 U9.heap)) (va_Qd (fun r M2 => r = r9 ∧ M2 = M9) (wB D cs ad (fA ad sz)) (fA ad sz)) 0 0 (fA ad sz)) (hG : GoodIn TT (wsV own idx Cn y (.code y b n rt :: TT))) (hrm : rm.cells = 0 ∧ rm.slots = 0) (hyd : y.cls = Cn ∧ y.cls ≠ "java/lang/invoke/MethodHandle" ∧ y.cls ≠ "java/lang/invoke/VarHandle" ∧ (parseMethodDescriptor y.desc).map (fun d => d.parameters.length) = some nA) (hR : rm.frames + 1 ≤ fr ∧ 8 + (n + 11) + rm.locals ≤ lo) (hid : id < 146) (he : wF cs ad id (M.1 id) (M.2 id) = .inr (ci, fs)) (hc : vwCl[ci]? = some q9) (hq9 : q9.1 = Cn) (hn : As9.length = nA) (hst : st = As9.reverse ++ .ref (ad id) :: rest) (hW8 : (rest.map fun v => v.category).sum ≤ 8) (d : decode cc pc = .ok (.invokevirtual idx, 3)) (k : VV l D cs ad nL κ u M9 (pc + 3) lv (.double r9 :: rest)) : VV l D cs ad nL κ u M pc lv st := r_ncallV_d C hN hu As9 hM hG hrm hyd hR hid he hc hq9 hn hst hW8 d (fun r M2 h => by obtain ⟨h1, h2⟩ := h; rw [h1, h2]; exact k)
/-- a call that throws, and this method with it -/
theorem r_xcallV_d (C : CX D cs ad cc nL own fr lo 0 κ) (hN : CN ad κ) {E : String} {px px2 : Mm → Prop} (X : CT l D cs ad E px κ) {y : MethodName} {b : ByteArray} {n nA idx : Nat} {rt : Option FieldType} {rm : Room} {rest : List Value} {Cn : String} {ci id : Nat} {q9 : vw_C} {fs : List Value} (As9 : List Value) (hM : ∀ sz, vx_Met l y (.code y b n rt :: TT) rm (va_Pc (.ref (ad id) :: As9) (fun U9 => U9.heap.size = sz ∧ wB D cs ad (fA ad sz) M U9 ∧ xX (fA ad sz) U9 U9.heap)) (va_Qd (fun _ (_ : Mm) => False) (wB D cs ad (fA ad sz)) (fA ad sz)) (vx_X px2 (fun E9 M2 t => E9 = E ∧ wB D cs ad (fA ad sz) M2 t) (fA ad sz)) 1 6 (fA ad sz)) (hG : GoodIn TT (wsV own idx Cn y (.code y b n rt :: TT))) (hrm : rm.cells = 1 ∧ rm.slots = 6) (hyd : y.cls = Cn ∧ y.cls ≠ "java/lang/invoke/MethodHandle" ∧ y.cls ≠ "java/lang/invoke/VarHandle" ∧ (parseMethodDescriptor y.desc).map (fun d => d.parameters.length) = some nA) (hR : rm.frames + 1 ≤ fr ∧ 8 + (n + 11) + rm.locals ≤ lo) (hid : id < 146) (he : wF cs ad id (M.1 id) (M.2 id) = .inr (ci, fs)) (hc : vwCl[ci]? = some q9) (hq9 : q9.1 = Cn) (hn : As9.length = nA) (hst : st = As9.reverse ++ .ref (ad id) :: rest) (hW8 : (rest.map fun v => v.category).sum ≤ 8) (d : decode cc pc = .ok (.invokevirtual idx, 3)) (hpx : ∀ M2, px2 M2 → px M2) : VV l D cs ad nL κ 0 M pc lv st := by
  obtain ⟨p, e, R, s, m, args, below, meth, c, c0, s0, Q⟩ := κ
  obtain ⟨hx, hb, hml, hown, hts, hK, hD, hfr, hlo, hc0, hs0⟩ := C
  obtain ⟨hst9, htab, hlk, hRc, hRs, rfl, rfl, Qc, rfl⟩ := X
  intro H locs ls hP hS hl
  subst hst
  refine vx_calld (vx_runV (As := As9) (rest := rest) ⟨hx, hb, hml, hown, hts⟩ (hM H.size) (cwV nA hts hG rfl hrm.1 hrm.2 hyd ⟨by rw [hfr]; exact hR.1, by rw [hlo]; exact hR.2⟩) ⟨fb_N, ?_, pr_N hK hP (hD M) (hN.now hS)⟩ rfl hn hl.1 rfl (lv_room hW8) d ⟨by rw [hRc]; exact Nat.le_refl _, by rw [hRs]; exact Nat.le_refl _⟩) hS (fun q _ h => fA_mono hS.1 h) (fun q h => fA_mono hS.1 h) (fun q _ h => fA_mono hS.1 h) (fun E9 ce q9 M2 t H1 locs1 ht hvm hw hB hz1 hk1 hS1 hce hcv hcl => ?_) (fun r M2 t H1 locs1 ht hvm hw hB hz1 hk1 hS1 => hw.elim)
  · have h9 := va_recv hK hP hc (show (wW cs ad M)[id]? = _ by rw [wW_get cs ad M hid, he])
    rw [hq9] at h9
    exact h9
  · refine vx_out (fun x h => (htab x h).elim) hlk hce hcv hcl (fun t9 ht9 hvm9 => ⟨M2, hpx M2 hw, ⟨hB.1, by rw [ht9, ← ht]; exact hB.2.1, va_K.moved hvm9 hK, hD M2⟩, hS1.F ht9⟩) hS1.2.2 (by omega) (by omega)
theorem r_ncallS_v (C : CX D cs ad cc nL own fr lo U κ) (hN : CN ad κ) (hu : u ≤ U) {y : MethodName} {b : ByteArray} {n nA idx : Nat} {rt : Option FieldType} {rm : Room} {rest : List Value} {post : Mm → Prop} (As9 : List Value) (hM : ∀ sz, Met l y (.code y b n rt :: TT) rm (va_Pc (As9) (fun U9 => U9.heap.size = sz ∧ wB D cs ad (fA ad sz) M U9 ∧ xX (fA ad sz) U9 U9.heap)) (va_Qv post (wB D cs ad (fA ad sz)) (fA ad sz)) 0 0 (fA ad sz)) (hG : GoodIn TT (wsS own idx y (.code y b n rt :: TT))) (hrm : rm.cells = 0 ∧ rm.slots = 0) (hyd : y.cls = own ∧ y.cls ≠ "java/lang/invoke/MethodHandle" ∧ y.cls ≠ "java/lang/invoke/VarHandle" ∧ (parseMethodDescriptor y.desc).map (fun d => d.parameters.length) = some nA) (hR : rm.frames + 1 ≤ fr ∧ 8 + (n + 11) + rm.locals ≤ lo) (hn : As9.length = nA) (hst : st = As9.reverse ++ rest) (hW8 : (rest.map fun v => v.category).sum ≤ 8) (d : decode cc pc = .ok (.invokestatic idx, 3)) (k : ∀ (M2 : Mm), post M2 → VV l D cs ad nL κ u M2 (pc + 3) lv rest) : VV l D cs ad nL κ u M pc lv st := by
  obtain ⟨p, e, R, s, m, args, below, meth, c, c0, s0, Q⟩ := κ
  obtain ⟨hx, hb, hml, hown, hts, hK, hD, hfr, hlo, hc0, hs0⟩ := C
  intro H locs ls hP hS hl
  subst hst
  refine va_callv (va_runS (As := As9) (rest := rest) ⟨hx, hb, hml, hown, hts⟩ (hM H.size) (cwS nA hts hG rfl hrm.1 hrm.2 hyd ⟨by rw [hfr]; exact hR.1, by rw [hlo]; exact hR.2⟩) ⟨fb_N, pr_N hK hP (hD M) (hN.now hS)⟩ rfl hn hl.1 rfl (lv_room hW8) d ⟨by omega, by omega⟩) hS (fun q _ h => fA_mono hS.1 h) (fun q h => fA_mono hS.1 h) (fun M2 t H1 locs1 ht hvm hw hB hz1 hk1 hS1 => ?_)
  exact k M2 hw H1 locs1 ls (by rw [← ht]; exact hB.1) hS1 hl
theorem r_npcallS_v (C : CX D cs ad cc nL own fr lo U κ) (hN : CN ad κ) (hu : u ≤ U) {y : MethodName} {b : ByteArray} {n nA idx : Nat} {rt : Option FieldType} {rm : Room} {rest : List Value} {M9 : Mm} (As9 : List Value) (hM : ∀ sz, Met l y (.code y b n rt :: TT) rm (va_Pc (As9) (fun U9 => U9.heap.size = sz ∧ wB D cs ad (fA ad sz) M U9 ∧ xX (fA ad sz) U9 U9.heap)) (va_Qv (fun M2 => M2 = M9) (wB D cs ad (fA ad sz)) (fA ad sz)) 0 0 (fA ad sz)) (hG : GoodIn TT (wsS own idx y (.code y b n rt :: TT))) (hrm : rm.cells = 0 ∧ rm.slots = 0) (hyd : y.cls = own ∧ y.cls ≠ "java/lang/invoke/MethodHandle" ∧ y.cls ≠ "java/lang/invoke/VarHandle" ∧ (parseMethodDescriptor y.desc).map (fun d => d.parameters.length) = some nA) (hR : rm.frames + 1 ≤ fr ∧ 8 + (n + 11) + rm.locals ≤ lo) (hn : As9.length = nA) (hst : st = As9.reverse ++ rest) (hW8 : (rest.map fun v => v.category).sum ≤ 8) (d : decode cc pc = .ok (.invokestatic idx, 3)) (k : VV l D cs ad nL κ u M9 (pc + 3) lv (rest)) : VV l D cs ad nL κ u M pc lv st := r_ncallS_v C hN hu As9 hM hG hrm hyd hR hn hst hW8 d (fun M2 h => by rw [h]; exact k)
/-- a call that throws, and this method with it -/
theorem r_xcallS_v (C : CX D cs ad cc nL own fr lo 0 κ) (hN : CN ad κ) {E : String} {px px2 : Mm → Prop} (X : CT l D cs ad E px κ) {y : MethodName} {b : ByteArray} {n nA idx : Nat} {rt : Option FieldType} {rm : Room} {rest : List Value} (As9 : List Value) (hM : ∀ sz, vx_Met l y (.code y b n rt :: TT) rm (va_Pc (As9) (fun U9 => U9.heap.size = sz ∧ wB D cs ad (fA ad sz) M U9 ∧ xX (fA ad sz) U9 U9.heap)) (va_Qv (fun (_ : Mm) => False) (wB D cs ad (fA ad sz)) (fA ad sz)) (vx_X px2 (fun E9 M2 t => E9 = E ∧ wB D cs ad (fA ad sz) M2 t) (fA ad sz)) 1 6 (fA ad sz)) (hG : GoodIn TT (wsS own idx y (.code y b n rt :: TT))) (hrm : rm.cells = 1 ∧ rm.slots = 6) (hyd : y.cls = own ∧ y.cls ≠ "java/lang/invoke/MethodHandle" ∧ y.cls ≠ "java/lang/invoke/VarHandle" ∧ (parseMethodDescriptor y.desc).map (fun d => d.parameters.length) = some nA) (hR : rm.frames + 1 ≤ fr ∧ 8 + (n + 11) + rm.locals ≤ lo) (hn : As9.length = nA) (hst : st = As9.reverse ++ rest) (hW8 : (rest.map fun v => v.category).sum ≤ 8) (d : decode cc pc = .ok (.invokestatic idx, 3)) (hpx : ∀ M2, px2 M2 → px M2) : VV l D cs ad nL κ 0 M pc lv st := by
  obtain ⟨p, e, R, s, m, args, below, meth, c, c0, s0, Q⟩ := κ
  obtain ⟨hx, hb, hml, hown, hts, hK, hD, hfr, hlo, hc0, hs0⟩ := C
  obtain ⟨hst9, htab, hlk, hRc, hRs, rfl, rfl, Qc, rfl⟩ := X
  intro H locs ls hP hS hl
  subst hst
  refine vx_callv (vx_runS (As := As9) (rest := rest) ⟨hx, hb, hml, hown, hts⟩ (hM H.size) (cwS nA hts hG rfl hrm.1 hrm.2 hyd ⟨by rw [hfr]; exact hR.1, by rw [hlo]; exact hR.2⟩) ⟨fb_N, pr_N hK hP (hD M) (hN.now hS)⟩ rfl hn hl.1 rfl (lv_room hW8) d ⟨by rw [hRc]; exact Nat.le_refl _, by rw [hRs]; exact Nat.le_refl _⟩) hS (fun q _ h => fA_mono hS.1 h) (fun q h => fA_mono hS.1 h) (fun q _ h => fA_mono hS.1 h) (fun E9 ce q9 M2 t H1 locs1 ht hvm hw hB hz1 hk1 hS1 hce hcv hcl => ?_) (fun M2 t H1 locs1 ht hvm hw hB hz1 hk1 hS1 => hw.elim)
  refine vx_out (fun x h => (htab x h).elim) hlk hce hcv hcl (fun t9 ht9 hvm9 => ⟨M2, hpx M2 hw, ⟨hB.1, by rw [ht9, ← ht]; exact hB.2.1, va_K.moved hvm9 hK, hD M2⟩, hS1.F ht9⟩) hS1.2.2 (by omega) (by omega)
theorem r_ncallS2_v (C : CX D cs ad cc nL own fr lo U κ) (hN : CN ad κ) (hu : u ≤ U) {y : MethodName} {b : ByteArray} {n nA idx : Nat} {rt : Option FieldType} {rm : Room} {rest : List Value} {post : Mm → Prop} (As9 : List Value) (hM : ∀ sz, Met l y (.code y b n rt :: TT) rm (va_Pc (As9) (fun U9 => U9.heap.size = sz ∧ wB D cs ad (fA ad sz) M U9 ∧ xX (fA ad sz) U9 U9.heap)) (va_Qv post (wB D cs ad (fA ad sz)) (fA ad sz)) 0 0 (fA ad sz)) (hG : GoodIn TT (va_wsS own idx y (.code y b n rt :: TT))) (hrm : rm.cells = 0 ∧ rm.slots = 0) (hyd : y.cls ≠ "java/lang/invoke/MethodHandle" ∧ y.cls ≠ "java/lang/invoke/VarHandle" ∧ (parseMethodDescriptor y.desc).map (fun d => d.parameters.length) = some nA) (hR : rm.frames + 1 ≤ fr ∧ 8 + (n + 11) + rm.locals ≤ lo) (hn : As9.length = nA) (hst : st = As9.reverse ++ rest) (hW8 : (rest.map fun v => v.category).sum ≤ 8) (d : decode cc pc = .ok (.invokestatic idx, 3)) (k : ∀ (M2 : Mm), post M2 → VV l D cs ad nL κ u M2 (pc + 3) lv rest) : VV l D cs ad nL κ u M pc lv st := by
  obtain ⟨p, e, R, s, m, args, below, meth, c, c0, s0, Q⟩ := κ
  obtain ⟨hx, hb, hml, hown, hts, hK, hD, hfr, hlo, hc0, hs0⟩ := C
  intro H locs ls hP hS hl
  subst hst
  refine va_callv (va_runS (As := As9) (rest := rest) ⟨hx, hb, hml, hown, hts⟩ (hM H.size) (va_cwS nA hts hG rfl hrm.1 hrm.2 hyd ⟨by rw [hfr]; exact hR.1, by rw [hlo]; exact hR.2⟩) ⟨fb_N, pr_N hK hP (hD M) (hN.now hS)⟩ rfl hn hl.1 rfl (lv_room hW8) d ⟨by omega, by omega⟩) hS (fun q _ h => fA_mono hS.1 h) (fun q h => fA_mono hS.1 h) (fun M2 t H1 locs1 ht hvm hw hB hz1 hk1 hS1 => ?_)
  exact k M2 hw H1 locs1 ls (by rw [← ht]; exact hB.1) hS1 hl
theorem r_npcallS2_v (C : CX D cs ad cc nL own fr lo U κ) (hN : CN ad κ) (hu : u ≤ U) {y : MethodName} {b : ByteArray} {n nA idx : Nat} {rt : Option FieldType} {rm : Room} {rest : List Value} {M9 : Mm} (As9 : List Value) (hM : ∀ sz, Met l y (.code y b n rt :: TT) rm (va_Pc (As9) (fun U9 => U9.heap.size = sz ∧ wB D cs ad (fA ad sz) M U9 ∧ xX (fA ad sz) U9 U9.heap)) (va_Qv (fun M2 => M2 = M9) (wB D cs ad (fA ad sz)) (fA ad sz)) 0 0 (fA ad sz)) (hG : GoodIn TT (va_wsS own idx y (.code y b n rt :: TT))) (hrm : rm.cells = 0 ∧ rm.slots = 0) (hyd : y.cls ≠ "java/lang/invoke/MethodHandle" ∧ y.cls ≠ "java/lang/invoke/VarHandle" ∧ (parseMethodDescriptor y.desc).map (fun d => d.parameters.length) = some nA) (hR : rm.frames + 1 ≤ fr ∧ 8 + (n + 11) + rm.locals ≤ lo) (hn : As9.length = nA) (hst : st = As9.reverse ++ rest) (hW8 : (rest.map fun v => v.category).sum ≤ 8) (d : decode cc pc = .ok (.invokestatic idx, 3)) (k : VV l D cs ad nL κ u M9 (pc + 3) lv (rest)) : VV l D cs ad nL κ u M pc lv st := r_ncallS2_v C hN hu As9 hM hG hrm hyd hR hn hst hW8 d (fun M2 h => by rw [h]; exact k)
/-- a call that throws, and this method with it -/
theorem r_xcallS2_v (C : CX D cs ad cc nL own fr lo 0 κ) (hN : CN ad κ) {E : String} {px px2 : Mm → Prop} (X : CT l D cs ad E px κ) {y : MethodName} {b : ByteArray} {n nA idx : Nat} {rt : Option FieldType} {rm : Room} {rest : List Value} (As9 : List Value) (hM : ∀ sz, vx_Met l y (.code y b n rt :: TT) rm (va_Pc (As9) (fun U9 => U9.heap.size = sz ∧ wB D cs ad (fA ad sz) M U9 ∧ xX (fA ad sz) U9 U9.heap)) (va_Qv (fun (_ : Mm) => False) (wB D cs ad (fA ad sz)) (fA ad sz)) (vx_X px2 (fun E9 M2 t => E9 = E ∧ wB D cs ad (fA ad sz) M2 t) (fA ad sz)) 1 6 (fA ad sz)) (hG : GoodIn TT (va_wsS own idx y (.code y b n rt :: TT))) (hrm : rm.cells = 1 ∧ rm.slots = 6) (hyd : y.cls ≠ "java/lang/invoke/MethodHandle" ∧ y.cls ≠ "java/lang/invoke/VarHandle" ∧ (parseMethodDescriptor y.desc).map (fun d => d.parameters.length) = some nA) (hR : rm.frames + 1 ≤ fr ∧ 8 + (n + 11) + rm.locals ≤ lo) (hn : As9.length = nA) (hst : st = As9.reverse ++ rest) (hW8 : (rest.map fun v => v.category).sum ≤ 8) (d : decode cc pc = .ok (.invokestatic idx, 3)) (hpx : ∀ M2, px2 M2 → px M2) : VV l D cs ad nL κ 0 M pc lv st := by
  obtain ⟨p, e, R, s, m, args, below, meth, c, c0, s0, Q⟩ := κ
  obtain ⟨hx, hb, hml, hown, hts, hK, hD, hfr, hlo, hc0, hs0⟩ := C
  obtain ⟨hst9, htab, hlk, hRc, hRs, rfl, rfl, Qc, rfl⟩ := X
  intro H locs ls hP hS hl
  subst hst
  refine vx_callv (vx_runS (As := As9) (rest := rest) ⟨hx, hb, hml, hown, hts⟩ (hM H.size) (va_cwS nA hts hG rfl hrm.1 hrm.2 hyd ⟨by rw [hfr]; exact hR.1, by rw [hlo]; exact hR.2⟩) ⟨fb_N, pr_N hK hP (hD M) (hN.now hS)⟩ rfl hn hl.1 rfl (lv_room hW8) d ⟨by rw [hRc]; exact Nat.le_refl _, by rw [hRs]; exact Nat.le_refl _⟩) hS (fun q _ h => fA_mono hS.1 h) (fun q h => fA_mono hS.1 h) (fun q _ h => fA_mono hS.1 h) (fun E9 ce q9 M2 t H1 locs1 ht hvm hw hB hz1 hk1 hS1 hce hcv hcl => ?_) (fun M2 t H1 locs1 ht hvm hw hB hz1 hk1 hS1 => hw.elim)
  refine vx_out (fun x h => (htab x h).elim) hlk hce hcv hcl (fun t9 ht9 hvm9 => ⟨M2, hpx M2 hw, ⟨hB.1, by rw [ht9, ← ht]; exact hB.2.1, va_K.moved hvm9 hK, hD M2⟩, hS1.F ht9⟩) hS1.2.2 (by omega) (by omega)
theorem r_ncallV_v (C : CX D cs ad cc nL own fr lo U κ) (hN : CN ad κ) (hu : u ≤ U) {y : MethodName} {b : ByteArray} {n nA idx : Nat} {rt : Option FieldType} {rm : Room} {rest : List Value} {Cn : String} {ci id : Nat} {q9 : vw_C} {fs : List Value} {post : Mm → Prop} (As9 : List Value) (hM : ∀ sz, Met l y (.code y b n rt :: TT) rm (va_Pc (.ref (ad id) :: As9) (fun U9 => U9.heap.size = sz ∧ wB D cs ad (fA ad sz) M U9 ∧ xX (fA ad sz) U9 U9.heap)) (va_Qv post (wB D cs ad (fA ad sz)) (fA ad sz)) 0 0 (fA ad sz)) (hG : GoodIn TT (wsV own idx Cn y (.code y b n rt :: TT))) (hrm : rm.cells = 0 ∧ rm.slots = 0) (hyd : y.cls = Cn ∧ y.cls ≠ "java/lang/invoke/MethodHandle" ∧ y.cls ≠ "java/lang/invoke/VarHandle" ∧ (parseMethodDescriptor y.desc).map (fun d => d.parameters.length) = some nA) (hR : rm.frames + 1 ≤ fr ∧ 8 + (n + 11) + rm.locals ≤ lo) (hid : id < 146) (he : wF cs ad id (M.1 id) (M.2 id) = .inr (ci, fs)) (hc : vwCl[ci]? = some q9) (hq9 : q9.1 = Cn) (hn : As9.length = nA) (hst : st = As9.reverse ++ .ref (ad id) :: rest) (hW8 : (rest.map fun v => v.category).sum ≤ 8) (d : decode cc pc = .ok (.invokevirtual idx, 3)) (k : ∀ (M2 : Mm), post M2 → VV l D cs ad nL κ u M2 (pc + 3) lv rest) : VV l D cs ad nL κ u M pc lv st := by
  obtain ⟨p, e, R, s, m, args, below, meth, c, c0, s0, Q⟩ := κ
  obtain ⟨hx, hb, hml, hown, hts, hK, hD, hfr, hlo, hc0, hs0⟩ := C
  intro H locs ls hP hS hl
  subst hst
  refine va_callv (va_runV (As := As9) (rest := rest) ⟨hx, hb, hml, hown, hts⟩ (hM H.size) (cwV nA hts hG rfl hrm.1 hrm.2 hyd ⟨by rw [hfr]; exact hR.1, by rw [hlo]; exact hR.2⟩) ⟨fb_N, ?_, pr_N hK hP (hD M) (hN.now hS)⟩ rfl hn hl.1 rfl (lv_room hW8) d ⟨by omega, by omega⟩) hS (fun q _ h => fA_mono hS.1 h) (fun q h => fA_mono hS.1 h) (fun M2 t H1 locs1 ht hvm hw hB hz1 hk1 hS1 => ?_)
  · have h9 := va_recv hK hP hc (show (wW cs ad M)[id]? = _ by rw [wW_get cs ad M hid, he])
    rw [hq9] at h9
    exact h9
  · exact k M2 hw H1 locs1 ls (by rw [← ht]; exact hB.1) hS1 hl
theorem r_npcallV_v (C : CX D cs ad cc nL own fr lo U κ) (hN : CN ad κ) (hu : u ≤ U) {y : MethodName} {b : ByteArray} {n nA idx : Nat} {rt : Option FieldType} {rm : Room} {rest : List Value} {Cn : String} {ci id : Nat} {q9 : vw_C} {fs : List Value} {M9 : Mm} (As9 : List Value) (hM : ∀ sz, Met l y (.code y b n rt :: TT) rm (va_Pc (.ref (ad id) :: As9) (fun U9 => U9.heap.size = sz ∧ wB D cs ad (fA ad sz) M U9 ∧ xX (fA ad sz) U9 U9.heap)) (va_Qv (fun M2 => M2 = M9) (wB D cs ad (fA ad sz)) (fA ad sz)) 0 0 (fA ad sz)) (hG : GoodIn TT (wsV own idx Cn y (.code y b n rt :: TT))) (hrm : rm.cells = 0 ∧ rm.slots = 0) (hyd : y.cls = Cn ∧ y.cls ≠ "java/lang/invoke/MethodHandle" ∧ y.cls ≠ "java/lang/invoke/VarHandle" ∧ (parseMethodDescriptor y.desc).map (fun d => d.parameters.length) = some nA) (hR : rm.frames + 1 ≤ fr ∧ 8 + (n + 11) + rm.locals ≤ lo) (hid : id < 146) (he : wF cs ad id (M.1 id) (M.2 id) = .inr (ci, fs)) (hc : vwCl[ci]? = some q9) (hq9 : q9.1 = Cn) (hn : As9.length = nA) (hst : st = As9.reverse ++ .ref (ad id) :: rest) (hW8 : (rest.map fun v => v.category).sum ≤ 8) (d : decode cc pc = .ok (.invokevirtual idx, 3)) (k : VV l D cs ad nL κ u M9 (pc + 3) lv (rest)) : VV l D cs ad nL κ u M pc lv st := r_ncallV_v C hN hu As9 hM hG hrm hyd hR hid he hc hq9 hn hst hW8 d (fun M2 h => by rw [h]; exact k)
/-- a call that throws, and this method with it -/
theorem r_xcallV_v (C : CX D cs ad cc nL own fr lo 0 κ) (hN : CN ad κ) {E : String} {px px2 : Mm → Prop} (X : CT l D cs ad E px κ) {y : MethodName} {b : ByteArray} {n nA idx : Nat} {rt : Option FieldType} {rm : Room} {rest : List Value} {Cn : String} {ci id : Nat} {q9 : vw_C} {fs : List Value} (As9 : List Value) (hM : ∀ sz, vx_Met l y (.code y b n rt :: TT) rm (va_Pc (.ref (ad id) :: As9) (fun U9 => U9.heap.size = sz ∧ wB D cs ad (fA ad sz) M U9 ∧ xX (fA ad sz) U9 U9.heap)) (va_Qv (fun (_ : Mm) => False) (wB D cs ad (fA ad sz)) (fA ad sz)) (vx_X px2 (fun E9 M2 t => E9 = E ∧ wB D cs ad (fA ad sz) M2 t) (fA ad sz)) 1 6 (fA ad sz)) (hG : GoodIn TT (wsV own idx Cn y (.code y b n rt :: TT))) (hrm : rm.cells = 1 ∧ rm.slots = 6) (hyd : y.cls = Cn ∧ y.cls ≠ "java/lang/invoke/MethodHandle" ∧ y.cls ≠ "java/lang/invoke/VarHandle" ∧ (parseMethodDescriptor y.desc).map (fun d => d.parameters.length) = some nA) (hR : rm.frames + 1 ≤ fr ∧ 8 + (n + 11) + rm.locals ≤ lo) (hid : id < 146) (he : wF cs ad id (M.1 id) (M.2 id) = .inr (ci, fs)) (hc : vwCl[ci]? = some q9) (hq9 : q9.1 = Cn) (hn : As9.length = nA) (hst : st = As9.reverse ++ .ref (ad id) :: rest) (hW8 : (rest.map fun v => v.category).sum ≤ 8) (d : decode cc pc = .ok (.invokevirtual idx, 3)) (hpx : ∀ M2, px2 M2 → px M2) : VV l D cs ad nL κ 0 M pc lv st := by
  obtain ⟨p, e, R, s, m, args, below, meth, c, c0, s0, Q⟩ := κ
  obtain ⟨hx, hb, hml, hown, hts, hK, hD, hfr, hlo, hc0, hs0⟩ := C
  obtain ⟨hst9, htab, hlk, hRc, hRs, rfl, rfl, Qc, rfl⟩ := X
  intro H locs ls hP hS hl
  subst hst
  refine vx_callv (vx_runV (As := As9) (rest := rest) ⟨hx, hb, hml, hown, hts⟩ (hM H.size) (cwV nA hts hG rfl hrm.1 hrm.2 hyd ⟨by rw [hfr]; exact hR.1, by rw [hlo]; exact hR.2⟩) ⟨fb_N, ?_, pr_N hK hP (hD M) (hN.now hS)⟩ rfl hn hl.1 rfl (lv_room hW8) d ⟨by rw [hRc]; exact Nat.le_refl _, by rw [hRs]; exact Nat.le_refl _⟩) hS (fun q _ h => fA_mono hS.1 h) (fun q h => fA_mono hS.1 h) (fun q _ h => fA_mono hS.1 h) (fun E9 ce q9 M2 t H1 locs1 ht hvm hw hB hz1 hk1 hS1 hce hcv hcl => ?_) (fun M2 t H1 locs1 ht hvm hw hB hz1 hk1 hS1 => hw.elim)
  · have h9 := va_recv hK hP hc (show (wW cs ad M)[id]? = _ by rw [wW_get cs ad M hid, he])
    rw [hq9] at h9
    exact h9
  · refine vx_out (fun x h => (htab x h).elim) hlk hce hcv hcl (fun t9 ht9 hvm9 => ⟨M2, hpx M2 hw, ⟨hB.1, by rw [ht9, ← ht]; exact hB.2.1, va_K.moved hvm9 hK, hD M2⟩, hS1.F ht9⟩) hS1.2.2 (by omega) (by omega)
/-- a static call of a private method of a nest mate -/
theorem r_nest_i (C : CX D cs ad cc nL own fr lo U κ) (hN : CN ad κ) (hu : u ≤ U) {y : MethodName} {b : ByteArray} {n nA idx : Nat} {rt : Option FieldType} {rm : Room} {rest : List Value} {host : String} {r9 : Int32} {M9 : Mm} (As9 : List Value) (hM : ∀ sz, Met l y (.code y b n rt :: TT) rm (va_Pc As9 (fun U9 => U9.heap.size = sz ∧ wB D cs ad (fA ad sz) M U9)) (va_Qi (fun r M2 => r = r9 ∧ M2 = M9) (wB D cs ad (fA ad sz)) (fA ad sz)) 0 0 (fA ad sz)) (hw9 : Cond.methodLinkNest own idx y host ∈ xNw) (hG1 : Cond.static y ∈ TT) (hG2 : Cond.initialized y.cls ∈ TT) (hG3 : Cond.code y b n rt ∈ TT) (hrm : rm.cells = 0 ∧ rm.slots = 0) (hyd : y.cls ≠ "java/lang/invoke/MethodHandle" ∧ y.cls ≠ "java/lang/invoke/VarHandle" ∧ (parseMethodDescriptor y.desc).map (fun d => d.parameters.length) = some nA) (hR : rm.frames + 1 ≤ fr ∧ 8 + (n + 11) + rm.locals ≤ lo) (hn : As9.length = nA) (hst : st = As9.reverse ++ rest) (hW8 : (rest.map fun v => v.category).sum ≤ 8) (d : decode cc pc = .ok (.invokestatic idx, 3)) (k : VV l D cs ad nL κ u M9 (pc + 3) lv (.int r9 :: rest)) : VV l D cs ad nL κ u M pc lv st := by
  obtain ⟨p, e, R, s, m, args, below, meth, c, c0, s0, Q⟩ := κ
  obtain ⟨hx, hb, hml, hown, hts, hK, hD, hfr, hlo, hc0, hs0⟩ := C
  intro H locs ls hP hS hl
  subst hst
  refine va_calli (va_runSN (As := As9) (rest := rest) ⟨hx, hb, hml, hown, hts⟩ (hM H.size) ⟨va_cnB nA hts (tt_in (tt_c hG3 fun _ h => h)) rfl hrm.1 hrm.2 (hN.2.2.2.1 _ hw9) (hts _ hG2) hyd ⟨by rw [hfr]; exact hR.1, by rw [hlo]; exact hR.2⟩, hts _ hG1, trivial⟩ ⟨fb_B, pr_B hK hP (hD M)⟩ rfl hn hl.1 rfl (lv_room hW8) d ⟨by omega, by omega⟩) hS (fun q _ h => fA_mono hS.1 h) (fun q h => fA_mono hS.1 h) (fun r M2 t H1 locs1 ht hvm hw hB hz1 hk1 hS1 => ?_)
  obtain ⟨h1, h2⟩ := hw
  subst h1; subst h2
  exact k H1 locs1 ls (by rw [← ht]; exact hB.1) hS1 hl
end CVS
