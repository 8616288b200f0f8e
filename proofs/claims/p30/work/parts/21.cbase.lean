/-! ===== the class's methods: nest links, throws (written by wip/whole/gen/cbase.py) ===== -/
def xS : String := "(Ljava/lang/String;)V"
def xNw : List Cond := [.methodLinkNest RX4 85 yX7_product RX7, .methodLinkNest RX0 52 yX7_product RX7]
def xk : Cond → Bool
  | .methodLinkNest .. => true
  | .castable .. => true
  | .declares .. => true
  | _ => false
theorem xk_ot {w : Cond} (h : xk w = true) : w.onTables = true := by cases w <;> first | rfl | exact absurd h Bool.false_ne_true
theorem xk_warm {w : Cond} {s U : State} (hW : s.WarmedH U.vm) (g : xk w = true) (h : va_Nw w s) : va_Nw w U := by
  cases w <;> first | exact h.warmM hW | exact h.warmC hW | exact h.warmD hW | exact absurd g Bool.false_ne_true
theorem xNw_k : ∀ w ∈ xNw, xk w = true := fun w h => List.all_eq_true.mp (show xNw.all xk = true by decide +kernel) w h
def xTx : List (Nat × String) := [(72, "no such number of vertices, or no such dimension"), (287, "no such vertex"), (91, "a vertex is not joined with itself"), (101, "no such weight"), (112, "it is the only vertex"), (292, "no such snapshot"), (294, "the snapshot was not taken"), (125, "there is a reason against the product"), (290, "no such place"), (296, "no such number of a vector"), (158, "there are more colors than the dimension"), (298, "no such size of a handle"), (187, "no such character"), (192, "the buffer is full"), (206, "the buffer is not a complete row of edges"), (220, "there is no saved state"), (232, "no such property"), (300, "no such part"), (254, "no such number of a handle"), (259, "no such number")]
def xNc : List (String × String) := [("java/lang/IllegalArgumentException", "java/lang/IndexOutOfBoundsException"), ("java/lang/IllegalStateException", "java/lang/IndexOutOfBoundsException"), ("java/lang/IllegalStateException", "java/lang/IllegalArgumentException")]
/-- the links of nest mates -/
def xX (_ : Nat → Prop) (U : State) (_ : Heap) : Prop := ∀ w ∈ xNw, va_Nw w U
theorem xX.warm {A : Nat → Prop} {s U : State} {H : Heap} (hW : s.WarmedH U.vm) (h : xX A s H) : xX A U H := fun w hw => xk_warm hW (xNw_k w hw) (h w hw)
theorem xX.same {A : Nat → Prop} {s U : State} {H : Heap} (hv : U.vm = s.vm) (h : xX A s H) : xX A U H := fun w hw => (h w hw).same (xk_ot (xNw_k w hw)) hv.symm
theorem xX.kept {A : Nat → Prop} {U : State} {H H1 : Heap} (h : xX A U H) (_ : ∀ a : Nat, a < H.size → ¬ A a → H1[a]? = H[a]?) : xX A U H1 := h
theorem xX.narrow {A B : Nat → Prop} {U : State} {H : Heap} (h : xX A U H) (_ : ∀ q, B q → A q) : xX B U H := h
/-- as xX, of the place of a walk's start -/
def CN (ad : Nat → Nat) : Kx → Prop
  | (_, _, _, s, _) => xX (fA ad s.heap.size) s s.heap
theorem xX.now {ad : Nat → Nat} {s : State} {H : Heap} {locs : List Loc} (h : xX (fA ad s.heap.size) s s.heap) (hS : va_S (fA ad s.heap.size) s.heap H locs) : xX (fA ad H.size) s H := (h.kept hS.2.1).narrow (fun _ hq => fA_mono hS.1 hq)
section CVS
variable {l : Launch} {D : va_G} {cs : Nat → ClassId} {ad : Nat → Nat} {nL : Nat} {κ : Kx} {u : Nat} {M : Mm} {pc : Nat} {lv : List (Nat × Value)} {st : List Value} {cc : ByteArray} {own : String} {fr lo U : Nat}
theorem sn_I {y : MethodName} {b : ByteArray} {n : Nat} {As : List Value} {post : Int32 → Mm → Prop} (hy : plainName y.cls = true) (hAs : (lg_sl As).length ≤ n) (body : ∀ κ, CX D cs ad b n y.cls fr lo 0 κ → CN ad κ → eI l D cs ad n b 0 κ post → VV l D cs ad n κ 0 M 0 (lv_args 0 As) []) (sz : Nat) : Met l y (.code y b n (some .int) :: TT) { frames := fr, cells := 0, slots := 0, locals := lo } (va_Pc As (fun U9 => U9.heap.size = sz ∧ wB D cs ad (fA ad sz) M U9 ∧ xX (fA ad sz) U9 U9.heap)) (va_Qi post (wB D cs ad (fA ad sz)) (fA ad sz)) 0 0 (fA ad sz) := by
  refine Met.ofW (cc := b) (maxL := n) (ret := (some .int)) hy rfl ?_
  intro p e s m args below meth c s₁ B hml hv
  obtain ⟨rfl, hsz, ⟨hP, hK, hD0⟩, hX⟩ := hv
  have hx := B.exec
  have hb := B.bytes
  have hr := B.returns
  have hts0 := atoms_spec (ws := .code y b n (some .int) :: TT) B.pre
  have hts : ∀ w ∈ TT, w.before As.toArray s = true := fun w hw => hts0 w (List.mem_cons_of_mem _ hw)
  have hown := findClass_of_methodNamed B.named
  have hlocks := B.notSynchronized
  subst hsz
  have hD : ∀ M, va_D (fA ad s.heap.size) (wW cs ad M) := fun M' => wD_any (fun i hi => fA_in hi) hD0 M'
  have hl := lv_entry As (n := n) hAs
  rw [lg_entry_eq]
  generalize (lg_sl As ++ List.replicate (n - (lg_sl As).length) Slot.unset).toArray = ls at hl ⊢
  refine body (p, e, _, s, m, As.toArray, below, meth, c, 0, 0, _) ⟨hx, hb, hml, hown, hts, hK, hD, rfl, rfl, Nat.le_refl _, Nat.le_refl _⟩ hX ?_ s.heap [] ls hP va_S.rf hl
  intro u M2 pc lv v hu d hpost
  obtain rfl : u = 0 := by omega
  intro H locs ls hP hS hl
  exact W.iret hx hb hr (fun t ht hW => ⟨⟨v, M2, rfl, hpost, by rw [ht]; exact hP, va_K.moved hW.alike hK, hD M2⟩, hS.F ht⟩) hS.2.2 d hlocks
theorem sn_Z {y : MethodName} {b : ByteArray} {n : Nat} {As : List Value} {post : Int32 → Mm → Prop} (hy : plainName y.cls = true) (hAs : (lg_sl As).length ≤ n) (body : ∀ κ, CX D cs ad b n y.cls fr lo 0 κ → CN ad κ → eZ l D cs ad n b 0 κ post → VV l D cs ad n κ 0 M 0 (lv_args 0 As) []) (sz : Nat) : Met l y (.code y b n (some .boolean) :: TT) { frames := fr, cells := 0, slots := 0, locals := lo } (va_Pc As (fun U9 => U9.heap.size = sz ∧ wB D cs ad (fA ad sz) M U9 ∧ xX (fA ad sz) U9 U9.heap)) (va_Qi post (wB D cs ad (fA ad sz)) (fA ad sz)) 0 0 (fA ad sz) := by
  refine Met.ofW (cc := b) (maxL := n) (ret := (some .boolean)) hy rfl ?_
  intro p e s m args below meth c s₁ B hml hv
  obtain ⟨rfl, hsz, ⟨hP, hK, hD0⟩, hX⟩ := hv
  have hx := B.exec
  have hb := B.bytes
  have hr := B.returns
  have hts0 := atoms_spec (ws := .code y b n (some .boolean) :: TT) B.pre
  have hts : ∀ w ∈ TT, w.before As.toArray s = true := fun w hw => hts0 w (List.mem_cons_of_mem _ hw)
  have hown := findClass_of_methodNamed B.named
  have hlocks := B.notSynchronized
  subst hsz
  have hD : ∀ M, va_D (fA ad s.heap.size) (wW cs ad M) := fun M' => wD_any (fun i hi => fA_in hi) hD0 M'
  have hl := lv_entry As (n := n) hAs
  rw [lg_entry_eq]
  generalize (lg_sl As ++ List.replicate (n - (lg_sl As).length) Slot.unset).toArray = ls at hl ⊢
  refine body (p, e, _, s, m, As.toArray, below, meth, c, 0, 0, _) ⟨hx, hb, hml, hown, hts, hK, hD, rfl, rfl, Nat.le_refl _, Nat.le_refl _⟩ hX ?_ s.heap [] ls hP va_S.rf hl
  intro u M2 pc lv v hu d hnr hpost
  obtain rfl : u = 0 := by omega
  intro H locs ls hP hS hl
  exact W.zret hx hb hr hnr (fun t ht hW => ⟨⟨v, M2, rfl, hpost, by rw [ht]; exact hP, va_K.moved hW.alike hK, hD M2⟩, hS.F ht⟩) hS.2.2 d hlocks
theorem sn_L {y : MethodName} {b : ByteArray} {n : Nat} {As : List Value} {post : Int64 → Mm → Prop} (hy : plainName y.cls = true) (hAs : (lg_sl As).length ≤ n) (body : ∀ κ, CX D cs ad b n y.cls fr lo 0 κ → CN ad κ → eL l D cs ad n b 0 κ post → VV l D cs ad n κ 0 M 0 (lv_args 0 As) []) (sz : Nat) : Met l y (.code y b n (some .long) :: TT) { frames := fr, cells := 0, slots := 0, locals := lo } (va_Pc As (fun U9 => U9.heap.size = sz ∧ wB D cs ad (fA ad sz) M U9 ∧ xX (fA ad sz) U9 U9.heap)) (va_Ql post (wB D cs ad (fA ad sz)) (fA ad sz)) 0 0 (fA ad sz) := by
  refine Met.ofW (cc := b) (maxL := n) (ret := (some .long)) hy rfl ?_
  intro p e s m args below meth c s₁ B hml hv
  obtain ⟨rfl, hsz, ⟨hP, hK, hD0⟩, hX⟩ := hv
  have hx := B.exec
  have hb := B.bytes
  have hr := B.returns
  have hts0 := atoms_spec (ws := .code y b n (some .long) :: TT) B.pre
  have hts : ∀ w ∈ TT, w.before As.toArray s = true := fun w hw => hts0 w (List.mem_cons_of_mem _ hw)
  have hown := findClass_of_methodNamed B.named
  have hlocks := B.notSynchronized
  subst hsz
  have hD : ∀ M, va_D (fA ad s.heap.size) (wW cs ad M) := fun M' => wD_any (fun i hi => fA_in hi) hD0 M'
  have hl := lv_entry As (n := n) hAs
  rw [lg_entry_eq]
  generalize (lg_sl As ++ List.replicate (n - (lg_sl As).length) Slot.unset).toArray = ls at hl ⊢
  refine body (p, e, _, s, m, As.toArray, below, meth, c, 0, 0, _) ⟨hx, hb, hml, hown, hts, hK, hD, rfl, rfl, Nat.le_refl _, Nat.le_refl _⟩ hX ?_ s.heap [] ls hP va_S.rf hl
  intro u M2 pc lv v hu d hpost
  obtain rfl : u = 0 := by omega
  intro H locs ls hP hS hl
  exact W.lret hx hb hr (fun t ht hW => ⟨⟨v, M2, rfl, hpost, by rw [ht]; exact hP, va_K.moved hW.alike hK, hD M2⟩, hS.F ht⟩) hS.2.2 d hlocks
theorem sn_D {y : MethodName} {b : ByteArray} {n : Nat} {As : List Value} {post : UInt64 → Mm → Prop} (hy : plainName y.cls = true) (hAs : (lg_sl As).length ≤ n) (body : ∀ κ, CX D cs ad b n y.cls fr lo 0 κ → CN ad κ → eD l D cs ad n b 0 κ post → VV l D cs ad n κ 0 M 0 (lv_args 0 As) []) (sz : Nat) : Met l y (.code y b n (some .double) :: TT) { frames := fr, cells := 0, slots := 0, locals := lo } (va_Pc As (fun U9 => U9.heap.size = sz ∧ wB D cs ad (fA ad sz) M U9 ∧ xX (fA ad sz) U9 U9.heap)) (va_Qd post (wB D cs ad (fA ad sz)) (fA ad sz)) 0 0 (fA ad sz) := by
  refine Met.ofW (cc := b) (maxL := n) (ret := (some .double)) hy rfl ?_
  intro p e s m args below meth c s₁ B hml hv
  obtain ⟨rfl, hsz, ⟨hP, hK, hD0⟩, hX⟩ := hv
  have hx := B.exec
  have hb := B.bytes
  have hr := B.returns
  have hts0 := atoms_spec (ws := .code y b n (some .double) :: TT) B.pre
  have hts : ∀ w ∈ TT, w.before As.toArray s = true := fun w hw => hts0 w (List.mem_cons_of_mem _ hw)
  have hown := findClass_of_methodNamed B.named
  have hlocks := B.notSynchronized
  subst hsz
  have hD : ∀ M, va_D (fA ad s.heap.size) (wW cs ad M) := fun M' => wD_any (fun i hi => fA_in hi) hD0 M'
  have hl := lv_entry As (n := n) hAs
  rw [lg_entry_eq]
  generalize (lg_sl As ++ List.replicate (n - (lg_sl As).length) Slot.unset).toArray = ls at hl ⊢
  refine body (p, e, _, s, m, As.toArray, below, meth, c, 0, 0, _) ⟨hx, hb, hml, hown, hts, hK, hD, rfl, rfl, Nat.le_refl _, Nat.le_refl _⟩ hX ?_ s.heap [] ls hP va_S.rf hl
  intro u M2 pc lv v hu d hpost
  obtain rfl : u = 0 := by omega
  intro H locs ls hP hS hl
  exact W.dret hx hb hr (fun t ht hW => ⟨⟨v, M2, rfl, hpost, by rw [ht]; exact hP, va_K.moved hW.alike hK, hD M2⟩, hS.F ht⟩) hS.2.2 d hlocks
theorem sn_V {y : MethodName} {b : ByteArray} {n : Nat} {As : List Value} {post : Mm → Prop} (hy : plainName y.cls = true) (hAs : (lg_sl As).length ≤ n) (body : ∀ κ, CX D cs ad b n y.cls fr lo 0 κ → CN ad κ → eV l D cs ad n b 0 κ post → VV l D cs ad n κ 0 M 0 (lv_args 0 As) []) (sz : Nat) : Met l y (.code y b n none :: TT) { frames := fr, cells := 0, slots := 0, locals := lo } (va_Pc As (fun U9 => U9.heap.size = sz ∧ wB D cs ad (fA ad sz) M U9 ∧ xX (fA ad sz) U9 U9.heap)) (va_Qv post (wB D cs ad (fA ad sz)) (fA ad sz)) 0 0 (fA ad sz) := by
  refine Met.ofW (cc := b) (maxL := n) (ret := none) hy rfl ?_
  intro p e s m args below meth c s₁ B hml hv
  obtain ⟨rfl, hsz, ⟨hP, hK, hD0⟩, hX⟩ := hv
  have hx := B.exec
  have hb := B.bytes
  have hr := B.returns
  have hts0 := atoms_spec (ws := .code y b n none :: TT) B.pre
  have hts : ∀ w ∈ TT, w.before As.toArray s = true := fun w hw => hts0 w (List.mem_cons_of_mem _ hw)
  have hown := findClass_of_methodNamed B.named
  have hlocks := B.notSynchronized
  subst hsz
  have hD : ∀ M, va_D (fA ad s.heap.size) (wW cs ad M) := fun M' => wD_any (fun i hi => fA_in hi) hD0 M'
  have hl := lv_entry As (n := n) hAs
  rw [lg_entry_eq]
  generalize (lg_sl As ++ List.replicate (n - (lg_sl As).length) Slot.unset).toArray = ls at hl ⊢
  refine body (p, e, _, s, m, As.toArray, below, meth, c, 0, 0, _) ⟨hx, hb, hml, hown, hts, hK, hD, rfl, rfl, Nat.le_refl _, Nat.le_refl _⟩ hX ?_ s.heap [] ls hP va_S.rf hl
  intro u M2 pc lv hu d hpost
  obtain rfl : u = 0 := by omega
  intro H locs ls hP hS hl
  exact W.vret hx hb hr (fun t ht hW => ⟨⟨M2, rfl, hpost, by rw [ht]; exact hP, va_K.moved hW.alike hK, hD M2⟩, hS.F ht⟩) hS.2.2 d hlocks
theorem fb_N {As : List Value} {sz : Nat} : FrameBlind (va_Pc As (fun U9 => U9.heap.size = sz ∧ wB D cs ad (fA ad sz) M U9 ∧ xX (fA ad sz) U9 U9.heap)) := fun a U g mk q => by
  obtain ⟨q0, q1, ⟨qP, qK, qD⟩, qX⟩ := q
  exact ⟨q0, q1, ⟨qP, va_K.moved (u := U) (U := U.calling g mk a) (Vm.Alike.refl U.vm) qK, qD⟩, (show xX (fA ad sz) (U.calling g mk a) U.heap from xX.same (s := U) rfl qX)⟩
theorem pr_N {s : State} {H : Heap} {As : List Value} (hK : va_K D vwCl (tyC cs) s) (hP : va_P D vwCl (wW cs ad M) H) (hD : va_D (fA ad s.heap.size) (wW cs ad M)) (hX : xX (fA ad H.size) s H) : ∀ U9 : State, U9.heap = H → s.WarmedH U9.vm → va_Pc As (fun U9 => U9.heap.size = H.size ∧ wB D cs ad (fA ad H.size) M U9 ∧ xX (fA ad H.size) U9 U9.heap) As.toArray U9 :=
  fun U9 hU hW => ⟨rfl, by rw [hU], ⟨by rw [hU]; exact hP, va_K.moved hW.alike hK, wD_any (fun i hi => fA_in hi) hD M⟩, by rw [hU]; exact hX.warm hW⟩
theorem r_ncallS_i (C : CX D cs ad cc nL own fr lo U κ) (hN : CN ad κ) (hu : u ≤ U) {y : MethodName} {b : ByteArray} {n nA idx : Nat} {rt : Option FieldType} {rm : Room} {rest : List Value} {post : Int32 → Mm → Prop} (As9 : List Value) (hM : ∀ sz, Met l y (.code y b n rt :: TT) rm (va_Pc (As9) (fun U9 => U9.heap.size = sz ∧ wB D cs ad (fA ad sz) M U9 ∧ xX (fA ad sz) U9 U9.heap)) (va_Qi post (wB D cs ad (fA ad sz)) (fA ad sz)) 0 0 (fA ad sz)) (hG : GoodIn TT (wsS own idx y (.code y b n rt :: TT))) (hrm : rm.cells = 0 ∧ rm.slots = 0) (hyd : y.cls = own ∧ y.cls ≠ "java/lang/invoke/MethodHandle" ∧ y.cls ≠ "java/lang/invoke/VarHandle" ∧ (parseMethodDescriptor y.desc).map (fun d => d.parameters.length) = some nA) (hR : rm.frames + 1 ≤ fr ∧ 8 + (n + 11) + rm.locals ≤ lo) (hn : As9.length = nA) (hst : st = As9.reverse ++ rest) (hW8 : (rest.map fun v => v.category).sum ≤ 8) (d : decode cc pc = .ok (.invokestatic idx, 3)) (k : ∀ (r : Int32) (M2 : Mm), post r M2 → VV l D cs ad nL κ u M2 (pc + 3) lv (.int r :: rest)) : VV l D cs ad nL κ u M pc lv st := by
  obtain ⟨p, e, R, s, m, args, below, meth, c, c0, s0, Q⟩ := κ
  obtain ⟨hx, hb, hml, hown, hts, hK, hD, hfr, hlo, hc0, hs0⟩ := C
  intro H locs ls hP hS hl
  subst hst
  refine va_calli (va_runS (As := As9) (rest := rest) ⟨hx, hb, hml, hown, hts⟩ (hM H.size) (cwS nA hts hG rfl hrm.1 hrm.2 hyd ⟨by rw [hfr]; exact hR.1, by rw [hlo]; exact hR.2⟩) ⟨fb_N, pr_N hK hP (hD M) (hN.now hS)⟩ rfl hn hl.1 rfl (lv_room hW8) d ⟨by omega, by omega⟩) hS (fun q _ h => fA_mono hS.1 h) (fun q h => fA_mono hS.1 h) (fun r M2 t H1 locs1 ht hvm hw hB hz1 hk1 hS1 => ?_)
  exact k r M2 hw H1 locs1 ls (by rw [← ht]; exact hB.1) hS1 hl
theorem r_npcallS_i (C : CX D cs ad cc nL own fr lo U κ) (hN : CN ad κ) (hu : u ≤ U) {y : MethodName} {b : ByteArray} {n nA idx : Nat} {rt : Option FieldType} {rm : Room} {rest : List Value} {r9 : Int32} {M9 : Mm} (As9 : List Value) (hM : ∀ sz, Met l y (.code y b n rt :: TT) rm (va_Pc (As9) (fun U9 => U9.heap.size = sz ∧ wB D cs ad (fA ad sz) M U9 ∧ xX (fA ad sz) U9 U9.heap)) (va_Qi (fun r M2 => r = r9 ∧ M2 = M9) (wB D cs ad (fA ad sz)) (fA ad sz)) 0 0 (fA ad sz)) (hG : GoodIn TT (wsS own idx y (.code y b n rt :: TT))) (hrm : rm.cells = 0 ∧ rm.slots = 0) (hyd : y.cls = own ∧ y.cls ≠ "java/lang/invoke/MethodHandle" ∧ y.cls ≠ "java/lang/invoke/VarHandle" ∧ (parseMethodDescriptor y.desc).map (fun d => d.parameters.length) = some nA) (hR : rm.frames + 1 ≤ fr ∧ 8 + (n + 11) + rm.locals ≤ lo) (hn : As9.length = nA) (hst : st = As9.reverse ++ rest) (hW8 : (rest.map fun v => v.category).sum ≤ 8) (d : decode cc pc = .ok (.invokestatic idx, 3)) (k : VV l D cs ad nL κ u M9 (pc + 3) lv (.int r9 :: rest)) : VV l D cs ad nL κ u M pc lv st := r_ncallS_i C hN hu As9 hM hG hrm hyd hR hn hst hW8 d (fun r M2 h => by obtain ⟨h1, h2⟩ := h; rw [h1, h2]; exact k)
theorem r_ncallS2_i (C : CX D cs ad cc nL own fr lo U κ) (hN : CN ad κ) (hu : u ≤ U) {y : MethodName} {b : ByteArray} {n nA idx : Nat} {rt : Option FieldType} {rm : Room} {rest : List Value} {post : Int32 → Mm → Prop} (As9 : List Value) (hM : ∀ sz, Met l y (.code y b n rt :: TT) rm (va_Pc (As9) (fun U9 => U9.heap.size = sz ∧ wB D cs ad (fA ad sz) M U9 ∧ xX (fA ad sz) U9 U9.heap)) (va_Qi post (wB D cs ad (fA ad sz)) (fA ad sz)) 0 0 (fA ad sz)) (hG : GoodIn TT (va_wsS own idx y (.code y b n rt :: TT))) (hrm : rm.cells = 0 ∧ rm.slots = 0) (hyd : y.cls ≠ "java/lang/invoke/MethodHandle" ∧ y.cls ≠ "java/lang/invoke/VarHandle" ∧ (parseMethodDescriptor y.desc).map (fun d => d.parameters.length) = some nA) (hR : rm.frames + 1 ≤ fr ∧ 8 + (n + 11) + rm.locals ≤ lo) (hn : As9.length = nA) (hst : st = As9.reverse ++ rest) (hW8 : (rest.map fun v => v.category).sum ≤ 8) (d : decode cc pc = .ok (.invokestatic idx, 3)) (k : ∀ (r : Int32) (M2 : Mm), post r M2 → VV l D cs ad nL κ u M2 (pc + 3) lv (.int r :: rest)) : VV l D cs ad nL κ u M pc lv st := by
  obtain ⟨p, e, R, s, m, args, below, meth, c, c0, s0, Q⟩ := κ
  obtain ⟨hx, hb, hml, hown, hts, hK, hD, hfr, hlo, hc0, hs0⟩ := C
  intro H locs ls hP hS hl
  subst hst
  refine va_calli (va_runS (As := As9) (rest := rest) ⟨hx, hb, hml, hown, hts⟩ (hM H.size) (va_cwS nA hts hG rfl hrm.1 hrm.2 hyd ⟨by rw [hfr]; exact hR.1, by rw [hlo]; exact hR.2⟩) ⟨fb_N, pr_N hK hP (hD M) (hN.now hS)⟩ rfl hn hl.1 rfl (lv_room hW8) d ⟨by omega, by omega⟩) hS (fun q _ h => fA_mono hS.1 h) (fun q h => fA_mono hS.1 h) (fun r M2 t H1 locs1 ht hvm hw hB hz1 hk1 hS1 => ?_)
  exact k r M2 hw H1 locs1 ls (by rw [← ht]; exact hB.1) hS1 hl
theorem r_npcallS2_i (C : CX D cs ad cc nL own fr lo U κ) (hN : CN ad κ) (hu : u ≤ U) {y : MethodName} {b : ByteArray} {n nA idx : Nat} {rt : Option FieldType} {rm : Room} {rest : List Value} {r9 : Int32} {M9 : Mm} (As9 : List Value) (hM : ∀ sz, Met l y (.code y b n rt :: TT) rm (va_Pc (As9) (fun U9 => U9.heap.size = sz ∧ wB D cs ad (fA ad sz) M U9 ∧ xX (fA ad sz) U9 U9.heap)) (va_Qi (fun r M2 => r = r9 ∧ M2 = M9) (wB D cs ad (fA ad sz)) (fA ad sz)) 0 0 (fA ad sz)) (hG : GoodIn TT (va_wsS own idx y (.code y b n rt :: TT))) (hrm : rm.cells = 0 ∧ rm.slots = 0) (hyd : y.cls ≠ "java/lang/invoke/MethodHandle" ∧ y.cls ≠ "java/lang/invoke/VarHandle" ∧ (parseMethodDescriptor y.desc).map (fun d => d.parameters.length) = some nA) (hR : rm.frames + 1 ≤ fr ∧ 8 + (n + 11) + rm.locals ≤ lo) (hn : As9.length = nA) (hst : st = As9.reverse ++ rest) (hW8 : (rest.map fun v => v.category).sum ≤ 8) (d : decode cc pc = .ok (.invokestatic idx, 3)) (k : VV l D cs ad nL κ u M9 (pc + 3) lv (.int r9 :: rest)) : VV l D cs ad nL κ u M pc lv st := r_ncallS2_i C hN hu As9 hM hG hrm hyd hR hn hst hW8 d (fun r M2 h => by obtain ⟨h1, h2⟩ := h; rw [h1, h2]; exact k)
theorem r_ncallV_i (C : CX D cs ad cc nL own fr lo U κ) (hN : CN ad κ) (hu : u ≤ U) {y : MethodName} {b : ByteArray} {n nA idx : Nat} {rt : Option FieldType} {rm : Room} {rest : List Value} {Cn : String} {ci id : Nat} {q9 : vw_C} {fs : List Value} {post : Int32 → Mm → Prop} (As9 : List Value) (hM : ∀ sz, Met l y (.code y b n rt :: TT) rm (va_Pc (.ref (ad id) :: As9) (fun U9 => U9.heap.size = sz ∧ wB D cs ad (fA ad sz) M U9 ∧ xX (fA ad sz) U9 U9.heap)) (va_Qi post (wB D cs ad (fA ad sz)) (fA ad sz)) 0 0 (fA ad sz)) (hG : GoodIn TT (wsV own idx Cn y (.code y b n rt :: TT))) (hrm : rm.cells = 0 ∧ rm.slots = 0) (hyd : y.cls = Cn ∧ y.cls ≠ "java/lang/invoke/MethodHandle" ∧ y.cls ≠ "java/lang/invoke/VarHandle" ∧ (parseMethodDescriptor y.desc).map (fun d => d.parameters.length) = some nA) (hR : rm.frames + 1 ≤ fr ∧ 8 + (n + 11) + rm.locals ≤ lo) (hid : id < 140) (he : wF cs ad id (M.1 id) (M.2 id) = .inr (ci, fs)) (hc : vwCl[ci]? = some q9) (hq9 : q9.1 = Cn) (hn : As9.length = nA) (hst : st = As9.reverse ++ .ref (ad id) :: rest) (hW8 : (rest.map fun v => v.category).sum ≤ 8) (d : decode cc pc = .ok (.invokevirtual idx, 3)) (k : ∀ (r : Int32) (M2 : Mm), post r M2 → VV l D cs ad nL κ u M2 (pc + 3) lv (.int r :: rest)) : VV l D cs ad nL κ u M pc lv st := by
  obtain ⟨p, e, R, s, m, args, below, meth, c, c0, s0, Q⟩ := κ
  obtain ⟨hx, hb, hml, hown, hts, hK, hD, hfr, hlo, hc0, hs0⟩ := C
  intro H locs ls hP hS hl
  subst hst
  refine va_calli (va_runV (As := As9) (rest := rest) ⟨hx, hb, hml, hown, hts⟩ (hM H.size) (cwV nA hts hG rfl hrm.1 hrm.2 hyd ⟨by rw [hfr]; exact hR.1, by rw [hlo]; exact hR.2⟩) ⟨fb_N, ?_, pr_N hK hP (hD M) (hN.now hS)⟩ rfl hn hl.1 rfl (lv_room hW8) d ⟨by omega, by omega⟩) hS (fun q _ h => fA_mono hS.1 h) (fun q h => fA_mono hS.1 h) (fun r M2 t H1 locs1 ht hvm hw hB hz1 hk1 hS1 => ?_)
  · have h9 := va_recv hK hP hc (show (wW cs ad M)[id]? = _ by rw [wW_get cs ad M hid, he])
    rw [hq9] at h9
    exact h9
  · exact k r M2 hw H1 locs1 ls (by rw [← ht]; exact hB.1) hS1 hl
theorem r_npcallV_i (C : CX D cs ad cc nL own fr lo U κ) (hN : CN ad κ) (hu : u ≤ U) {y : MethodName} {b : ByteArray} {n nA idx : Nat} {rt : Option FieldType} {rm : Room} {rest : List Value} {Cn : String} {ci id : Nat} {q9 : vw_C} {fs : List Value} {r9 : Int32} {M9 : Mm} (As9 : List Value) (hM : ∀ sz, Met l y (.code y b n rt :: TT) rm (va_Pc (.ref (ad id) :: As9) (fun U9 => U9.heap.size = sz ∧ wB D cs ad (fA ad sz) M U9 ∧ xX (fA ad sz) U9 U9.heap)) (va_Qi (fun r M2 => r = r9 ∧ M2 = M9) (wB D cs ad (fA ad sz)) (fA ad sz)) 0 0 (fA ad sz)) (hG : GoodIn TT (wsV own idx Cn y (.code y b n rt :: TT))) (hrm : rm.cells = 0 ∧ rm.slots = 0) (hyd : y.cls = Cn ∧ y.cls ≠ "java/lang/invoke/MethodHandle" ∧ y.cls ≠ "java/lang/invoke/VarHandle" ∧ (parseMethodDescriptor y.desc).map (fun d => d.parameters.length) = some nA) (hR : rm.frames + 1 ≤ fr ∧ 8 + (n + 11) + rm.locals ≤ lo) (hid : id < 140) (he : wF cs ad id (M.1 id) (M.2 id) = .inr (ci, fs)) (hc : vwCl[ci]? = some q9) (hq9 : q9.1 = Cn) (hn : As9.length = nA) (hst : st = As9.reverse ++ .ref (ad id) :: rest) (hW8 : (rest.map fun v => v.category).sum ≤ 8) (d : decode cc pc = .ok (.invokevirtual idx, 3)) (k : VV l D cs ad nL κ u M9 (pc + 3) lv (.int r9 :: rest)) : VV l D cs ad nL κ u M pc lv st := r_ncallV_i C hN hu As9 hM hG hrm hyd hR hid he hc hq9 hn hst hW8 d (fun r M2 h => by obtain ⟨h1, h2⟩ := h; rw [h1, h2]; exact k)
theorem r_ncallS_l (C : CX D cs ad cc nL own fr lo U κ) (hN : CN ad κ) (hu : u ≤ U) {y : MethodName} {b : ByteArray} {n nA idx : Nat} {rt : Option FieldType} {rm : Room} {rest : List Value} {post : Int64 → Mm → Prop} (As9 : List Value) (hM : ∀ sz, Met l y (.code y b n rt :: TT) rm (va_Pc (As9) (fun U9 => U9.heap.size = sz ∧ wB D cs ad (fA ad sz) M U9 ∧ xX (fA ad sz) U9 U9.heap)) (va_Ql post (wB D cs ad (fA ad sz)) (fA ad sz)) 0 0 (fA ad sz)) (hG : GoodIn TT (wsS own idx y (.code y b n rt :: TT))) (hrm : rm.cells = 0 ∧ rm.slots = 0) (hyd : y.cls = own ∧ y.cls ≠ "java/lang/invoke/MethodHandle" ∧ y.cls ≠ "java/lang/invoke/VarHandle" ∧ (parseMethodDescriptor y.desc).map (fun d => d.parameters.length) = some nA) (hR : rm.frames + 1 ≤ fr ∧ 8 + (n + 11) + rm.locals ≤ lo) (hn : As9.length = nA) (hst : st = As9.reverse ++ rest) (hW8 : (rest.map fun v => v.category).sum ≤ 8) (d : decode cc pc = .ok (.invokestatic idx, 3)) (k : ∀ (r : Int64) (M2 : Mm), post r M2 → VV l D cs ad nL κ u M2 (pc + 3) lv (.long r :: rest)) : VV l D cs ad nL κ u M pc lv st := by
  obtain ⟨p, e, R, s, m, args, below, meth, c, c0, s0, Q⟩ := κ
  obtain ⟨hx, hb, hml, hown, hts, hK, hD, hfr, hlo, hc0, hs0⟩ := C
  intro H locs ls hP hS hl
  subst hst
  refine va_calll (va_runS (As := As9) (rest := rest) ⟨hx, hb, hml, hown, hts⟩ (hM H.size) (cwS nA hts hG rfl hrm.1 hrm.2 hyd ⟨by rw [hfr]; exact hR.1, by rw [hlo]; exact hR.2⟩) ⟨fb_N, pr_N hK hP (hD M) (hN.now hS)⟩ rfl hn hl.1 rfl (lv_room hW8) d ⟨by omega, by omega⟩) hS (fun q _ h => fA_mono hS.1 h) (fun q h => fA_mono hS.1 h) (fun r M2 t H1 locs1 ht hvm hw hB hz1 hk1 hS1 => ?_)
  exact k r M2 hw H1 locs1 ls (by rw [← ht]; exact hB.1) hS1 hl
theorem r_npcallS_l (C : CX D cs ad cc nL own fr lo U κ) (hN : CN ad κ) (hu : u ≤ U) {y : MethodName} {b : ByteArray} {n nA idx : Nat} {rt : Option FieldType} {rm : Room} {rest : List Value} {r9 : Int64} {M9 : Mm} (As9 : List Value) (hM : ∀ sz, Met l y (.code y b n rt :: TT) rm (va_Pc (As9) (fun U9 => U9.heap.size = sz ∧ wB D cs ad (fA ad sz) M U9 ∧ xX (fA ad sz) U9 U9.heap)) (va_Ql (fun r M2 => r = r9 ∧ M2 = M9) (wB D cs ad (fA ad sz)) (fA ad sz)) 0 0 (fA ad sz)) (hG : GoodIn TT (wsS own idx y (.code y b n rt :: TT))) (hrm : rm.cells = 0 ∧ rm.slots = 0) (hyd : y.cls = own ∧ y.cls ≠ "java/lang/invoke/MethodHandle" ∧ y.cls ≠ "java/lang/invoke/VarHandle" ∧ (parseMethodDescriptor y.desc).map (fun d => d.parameters.length) = some nA) (hR : rm.frames + 1 ≤ fr ∧ 8 + (n + 11) + rm.locals ≤ lo) (hn : As9.length = nA) (hst : st = As9.reverse ++ rest) (hW8 : (rest.map fun v => v.category).sum ≤ 8) (d : decode cc pc = .ok (.invokestatic idx, 3)) (k : VV l D cs ad nL κ u M9 (pc + 3) lv (.long r9 :: rest)) : VV l D cs ad nL κ u M pc lv st := r_ncallS_l C hN hu As9 hM hG hrm hyd hR hn hst hW8 d (fun r M2 h => by obtain ⟨h1, h2⟩ := h; rw [h1, h2]; exact k)
theorem r_ncallS2_l (C : CX D cs ad cc nL own fr lo U κ) (hN : CN ad κ) (hu : u ≤ U) {y : MethodName} {b : ByteArray} {n nA idx : Nat} {rt : Option FieldType} {rm : Room} {rest : List Value} {post : Int64 → Mm → Prop} (As9 : List Value) (hM : ∀ sz, Met l y (.code y b n rt :: TT) rm (va_Pc (As9) (fun U9 => U9.heap.size = sz ∧ wB D cs ad (fA ad sz) M U9 ∧ xX (fA ad sz) U9 U9.heap)) (va_Ql post (wB D cs ad (fA ad sz)) (fA ad sz)) 0 0 (fA ad sz)) (hG : GoodIn TT (va_wsS own idx y (.code y b n rt :: TT))) (hrm : rm.cells = 0 ∧ rm.slots = 0) (hyd : y.cls ≠ "java/lang/invoke/MethodHandle" ∧ y.cls ≠ "java/lang/invoke/VarHandle" ∧ (parseMethodDescriptor y.desc).map (fun d => d.parameters.length) = some nA) (hR : rm.frames + 1 ≤ fr ∧ 8 + (n + 11) + rm.locals ≤ lo) (hn : As9.length = nA) (hst : st = As9.reverse ++ rest) (hW8 : (rest.map fun v => v.category).sum ≤ 8) (d : decode cc pc = .ok (.invokestatic idx, 3)) (k : ∀ (r : Int64) (M2 : Mm), post r M2 → VV l D cs ad nL κ u M2 (pc + 3) lv (.long r :: rest)) : VV l D cs ad nL κ u M pc lv st := by
  obtain ⟨p, e, R, s, m, args, below, meth, c, c0, s0, Q⟩ := κ
  obtain ⟨hx, hb, hml, hown, hts, hK, hD, hfr, hlo, hc0, hs0⟩ := C
  intro H locs ls hP hS hl
  subst hst
  refine va_calll (va_runS (As := As9) (rest := rest) ⟨hx, hb, hml, hown, hts⟩ (hM H.size) (va_cwS nA hts hG rfl hrm.1 hrm.2 hyd ⟨by rw [hfr]; exact hR.1, by rw [hlo]; exact hR.2⟩) ⟨fb_N, pr_N hK hP (hD M) (hN.now hS)⟩ rfl hn hl.1 rfl (lv_room hW8) d ⟨by omega, by omega⟩) hS (fun q _ h => fA_mono hS.1 h) (fun q h => fA_mono hS.1 h) (fun r M2 t H1 locs1 ht hvm hw hB hz1 hk1 hS1 => ?_)
  exact k r M2 hw H1 locs1 ls (by rw [← ht]; exact hB.1) hS1 hl
theorem r_npcallS2_l (C : CX D cs ad cc nL own fr lo U κ) (hN : CN ad κ) (hu : u ≤ U) {y : MethodName} {b : ByteArray} {n nA idx : Nat} {rt : Option FieldType} {rm : Room} {rest : List Value} {r9 : Int64} {M9 : Mm} (As9 : List Value) (hM : ∀ sz, Met l y (.code y b n rt :: TT) rm (va_Pc (As9) (fun U9 => U9.heap.size = sz ∧ wB D cs ad (fA ad sz) M U9 ∧ xX (fA ad sz) U9 U9.heap)) (va_Ql (fun r M2 => r = r9 ∧ M2 = M9) (wB D cs ad (fA ad sz)) (fA ad sz)) 0 0 (fA ad sz)) (hG : GoodIn TT (va_wsS own idx y (.code y b n rt :: TT))) (hrm : rm.cells = 0 ∧ rm.slots = 0) (hyd : y.cls ≠ "java/lang/invoke/MethodHandle" ∧ y.cls ≠ "java/lang/invoke/VarHandle" ∧ (parseMethodDescriptor y.desc).map (fun d => d.parameters.length) = some nA) (hR : rm.frames + 1 ≤ fr ∧ 8 + (n + 11) + rm.locals ≤ lo) (hn : As9.length = nA) (hst : st = As9.reverse ++ rest) (hW8 : (rest.map fun v => v.category).sum ≤ 8) (d : decode cc pc = .ok (.invokestatic idx, 3)) (k : VV l D cs ad nL κ u M9 (pc + 3) lv (.long r9 :: rest)) : VV l D cs ad nL κ u M pc lv st := r_ncallS2_l C hN hu As9 hM hG hrm hyd hR hn hst hW8 d (fun r M2 h => by obtain ⟨h1, h2⟩ := h; rw [h1, h2]; exact k)
theorem r_ncallV_l (C : CX D cs ad cc nL own fr lo U κ) (hN : CN ad κ) (hu : u ≤ U) {y : MethodName} {b : ByteArray} {n nA idx : Nat} {rt : Option FieldType} {rm : Room} {rest : List Value} {Cn : String} {ci id : Nat} {q9 : vw_C} {fs : List Value} {post : Int64 → Mm → Prop} (As9 : List Value) (hM : ∀ sz, Met l y (.code y b n rt :: TT) rm (va_Pc (.ref (ad id) :: As9) (fun U9 => U9.heap.size = sz ∧ wB D cs ad (fA ad sz) M U9 ∧ xX (fA ad sz) U9 U9.heap)) (va_Ql post (wB D cs ad (fA ad sz)) (fA ad sz)) 0 0 (fA ad sz)) (hG : GoodIn TT (wsV own idx Cn y (.code y b n rt :: TT))) (hrm : rm.cells = 0 ∧ rm.slots = 0) (hyd : y.cls = Cn ∧ y.cls ≠ "java/lang/invoke/MethodHandle" ∧ y.cls ≠ "java/lang/invoke/VarHandle" ∧ (parseMethodDescriptor y.desc).map (fun d => d.parameters.length) = some nA) (hR : rm.frames + 1 ≤ fr ∧ 8 + (n + 11) + rm.locals ≤ lo) (hid : id < 140) (he : wF cs ad id (M.1 id) (M.2 id) = .inr (ci, fs)) (hc : vwCl[ci]? = some q9) (hq9 : q9.1 = Cn) (hn : As9.length = nA) (hst : st = As9.reverse ++ .ref (ad id) :: rest) (hW8 : (rest.map fun v => v.category).sum ≤ 8) (d : decode cc pc = .ok (.invokevirtual idx, 3)) (k : ∀ (r : Int64) (M2 : Mm), post r M2 → VV l D cs ad nL κ u M2 (pc + 3) lv (.long r :: rest)) : VV l D cs ad nL κ u M pc lv st := by
  obtain ⟨p, e, R, s, m, args, below, meth, c, c0, s0, Q⟩ := κ
  obtain ⟨hx, hb, hml, hown, hts, hK, hD, hfr, hlo, hc0, hs0⟩ := C
  intro H locs ls hP hS hl
  subst hst
  refine va_calll (va_runV (As := As9) (rest := rest) ⟨hx, hb, hml, hown, hts⟩ (hM H.size) (cwV nA hts hG rfl hrm.1 hrm.2 hyd ⟨by rw [hfr]; exact hR.1, by rw [hlo]; exact hR.2⟩) ⟨fb_N, ?_, pr_N hK hP (hD M) (hN.now hS)⟩ rfl hn hl.1 rfl (lv_room hW8) d ⟨by omega, by omega⟩) hS (fun q _ h => fA_mono hS.1 h) (fun q h => fA_mono hS.1 h) (fun r M2 t H1 locs1 ht hvm hw hB hz1 hk1 hS1 => ?_)
  · have h9 := va_recv hK hP hc (show (wW cs ad M)[id]? = _ by rw [wW_get cs ad M hid, he])
    rw [hq9] at h9
    exact h9
  · exact k r M2 hw H1 locs1 ls (by rw [← ht]; exact hB.1) hS1 hl
theorem r_npcallV_l (C : CX D cs ad cc nL own fr lo U κ) (hN : CN ad κ) (hu : u ≤ U) {y : MethodName} {b : ByteArray} {n nA idx : Nat} {rt : Option FieldType} {rm : Room} {rest : List Value} {Cn : String} {ci id : Nat} {q9 : vw_C} {fs : List Value} {r9 : Int64} {M9 : Mm} (As9 : List Value) (hM : ∀ sz, Met l y (.code y b n rt :: TT) rm (va_Pc (.ref (ad id) :: As9) (fun U9 => U9.heap.size = sz ∧ wB D cs ad (fA ad sz) M U9 ∧ xX (fA ad sz) U9 U9.heap)) (va_Ql (fun r M2 => r = r9 ∧ M2 = M9) (wB D cs ad (fA ad sz)) (fA ad sz)) 0 0 (fA ad sz)) (hG : GoodIn TT (wsV own idx Cn y (.code y b n rt :: TT))) (hrm : rm.cells = 0 ∧ rm.slots = 0) (hyd : y.cls = Cn ∧ y.cls ≠ "java/lang/invoke/MethodHandle" ∧ y.cls ≠ "java/lang/invoke/VarHandle" ∧ (parseMethodDescriptor y.desc).map (fun d => d.parameters.length) = some nA) (hR : rm.frames + 1 ≤ fr ∧ 8 + (n + 11) + rm.locals ≤ lo) (hid : id < 140) (he : wF cs ad id (M.1 id) (M.2 id) = .inr (ci, fs)) (hc : vwCl[ci]? = some q9) (hq9 : q9.1 = Cn) (hn : As9.length = nA) (hst : st = As9.reverse ++ .ref (ad id) :: rest) (hW8 : (rest.map fun v => v.category).sum ≤ 8) (d : decode cc pc = .ok (.invokevirtual idx, 3)) (k : VV l D cs ad nL κ u M9 (pc + 3) lv (.long r9 :: rest)) : VV l D cs ad nL κ u M pc lv st := r_ncallV_l C hN hu As9 hM hG hrm hyd hR hid he hc hq9 hn hst hW8 d (fun r M2 h => by obtain ⟨h1, h2⟩ := h; rw [h1, h2]; exact k)
theorem r_ncallS_d (C : CX D cs ad cc nL own fr lo U κ) (hN : CN ad κ) (hu : u ≤ U) {y : MethodName} {b : ByteArray} {n nA idx : Nat} {rt : Option FieldType} {rm : Room} {rest : List Value} {post : UInt64 → Mm → Prop} (As9 : List Value) (hM : ∀ sz, Met l y (.code y b n rt :: TT) rm (va_Pc (As9) (fun U9 => U9.heap.size = sz ∧ wB D cs ad (fA ad sz) M U9 ∧ xX (fA ad sz) U9 U9.heap)) (va_Qd post (wB D cs ad (fA ad sz)) (fA ad sz)) 0 0 (fA ad sz)) (hG : GoodIn TT (wsS own idx y (.code y b n rt :: TT))) (hrm : rm.cells = 0 ∧ rm.slots = 0) (hyd : y.cls = own ∧ y.cls ≠ "java/lang/invoke/MethodHandle" ∧ y.cls ≠ "java/lang/invoke/VarHandle" ∧ (parseMethodDescriptor y.desc).map (fun d => d.parameters.length) = some nA) (hR : rm.frames + 1 ≤ fr ∧ 8 + (n + 11) + rm.locals ≤ lo) (hn : As9.length = nA) (hst : st = As9.reverse ++ rest) (hW8 : (rest.map fun v => v.category).sum ≤ 8) (d : decode cc pc = .ok (.invokestatic idx, 3)) (k : ∀ (r : UInt64) (M2 : Mm), post r M2 → VV l D cs ad nL κ u M2 (pc + 3) lv (.double r :: rest)) : VV l D cs ad nL κ u M pc lv st := by
  obtain ⟨p, e, R, s, m, args, below, meth, c, c0, s0, Q⟩ := κ
  obtain ⟨hx, hb, hml, hown, hts, hK, hD, hfr, hlo, hc0, hs0⟩ := C
  intro H locs ls hP hS hl
  subst hst
  refine va_calld (va_runS (As := As9) (rest := rest) ⟨hx, hb, hml, hown, hts⟩ (hM H.size) (cwS nA hts hG rfl hrm.1 hrm.2 hyd ⟨by rw [hfr]; exact hR.1, by rw [hlo]; exact hR.2⟩) ⟨fb_N, pr_N hK hP (hD M) (hN.now hS)⟩ rfl hn hl.1 rfl (lv_room hW8) d ⟨by omega, by omega⟩) hS (fun q _ h => fA_mono hS.1 h) (fun q h => fA_mono hS.1 h) (fun r M2 t H1 locs1 ht hvm hw hB hz1 hk1 hS1 => ?_)
  exact k r M2 hw H1 locs1 ls (by rw [← ht]; exact hB.1) hS1 hl
theorem r_npcallS_d (C : CX D cs ad cc nL own fr lo U κ) (hN : CN ad κ) (hu : u ≤ U) {y : MethodName} {b : ByteArray} {n nA idx : Nat} {rt : Option FieldType} {rm : Room} {rest : List Value} {r9 : UInt64} {M9 : Mm} (As9 : List Value) (hM : ∀ sz, Met l y (.code y b n rt :: TT) rm (va_Pc (As9) (fun U9 => U9.heap.size = sz ∧ wB D cs ad (fA ad sz) M U9 ∧ xX (fA ad sz) U9 U9.heap)) (va_Qd (fun r M2 => r = r9 ∧ M2 = M9) (wB D cs ad (fA ad sz)) (fA ad sz)) 0 0 (fA ad sz)) (hG : GoodIn TT (wsS own idx y (.code y b n rt :: TT))) (hrm : rm.cells = 0 ∧ rm.slots = 0) (hyd : y.cls = own ∧ y.cls ≠ "java/lang/invoke/MethodHandle" ∧ y.cls ≠ "java/lang/invoke/VarHandle" ∧ (parseMethodDescriptor y.desc).map (fun d => d.parameters.length) = some nA) (hR : rm.frames + 1 ≤ fr ∧ 8 + (n + 11) + rm.locals ≤ lo) (hn : As9.length = nA) (hst : st = As9.reverse ++ rest) (hW8 : (rest.map fun v => v.category).sum ≤ 8) (d : decode cc pc = .ok (.invokestatic idx, 3)) (k : VV l D cs ad nL κ u M9 (pc + 3) lv (.double r9 :: rest)) : VV l D cs ad nL κ u M pc lv st := r_ncallS_d C hN hu As9 hM hG hrm hyd hR hn hst hW8 d (fun r M2 h => by obtain ⟨h1, h2⟩ := h; rw [h1, h2]; exact k)
theorem r_ncallS2_d (C : CX D cs ad cc nL own fr lo U κ) (hN : CN ad κ) (hu : u ≤ U) {y : MethodName} {b : ByteArray} {n nA idx : Nat} {rt : Option FieldType} {rm : Room} {rest : List Value} {post : UInt64 → Mm → Prop} (As9 : List Value) (hM : ∀ sz, Met l y (.code y b n rt :: TT) rm (va_Pc (As9) (fun U9 => U9.heap.size = sz ∧ wB D cs ad (fA ad sz) M U9 ∧ xX (fA ad sz) U9 U9.heap)) (va_Qd post (wB D cs ad (fA ad sz)) (fA ad sz)) 0 0 (fA ad sz)) (hG : GoodIn TT (va_wsS own idx y (.code y b n rt :: TT))) (hrm : rm.cells = 0 ∧ rm.slots = 0) (hyd : y.cls ≠ "java/lang/invoke/MethodHandle" ∧ y.cls ≠ "java/lang/invoke/VarHandle" ∧ (parseMethodDescriptor y.desc).map (fun d => d.parameters.length) = some nA) (hR : rm.frames + 1 ≤ fr ∧ 8 + (n + 11) + rm.locals ≤ lo) (hn : As9.length = nA) (hst : st = As9.reverse ++ rest) (hW8 : (rest.map fun v => v.category).sum ≤ 8) (d : decode cc pc = .ok (.invokestatic idx, 3)) (k : ∀ (r : UInt64) (M2 : Mm), post r M2 → VV l D cs ad nL κ u M2 (pc + 3) lv (.double r :: rest)) : VV l D cs ad nL κ u M pc lv st := by
  obtain ⟨p, e, R, s, m, args, below, meth, c, c0, s0, Q⟩ := κ
  obtain ⟨hx, hb, hml, hown, hts, hK, hD, hfr, hlo, hc0, hs0⟩ := C
  intro H locs ls hP hS hl
  subst hst
  refine va_calld (va_runS (As := As9) (rest := rest) ⟨hx, hb, hml, hown, hts⟩ (hM H.size) (va_cwS nA hts hG rfl hrm.1 hrm.2 hyd ⟨by rw [hfr]; exact hR.1, by rw [hlo]; exact hR.2⟩) ⟨fb_N, pr_N hK hP (hD M) (hN.now hS)⟩ rfl hn hl.1 rfl (lv_room hW8) d ⟨by omega, by omega⟩) hS (fun q _ h => fA_mono hS.1 h) (fun q h => fA_mono hS.1 h) (fun r M2 t H1 locs1 ht hvm hw hB hz1 hk1 hS1 => ?_)
  exact k r M2 hw H1 locs1 ls (by rw [← ht]; exact hB.1) hS1 hl
theorem r_npcallS2_d (C : CX D cs ad cc nL own fr lo U κ) (hN : CN ad κ) (hu : u ≤ U) {y : MethodName} {b : ByteArray} {n nA idx : Nat} {rt : Option FieldType} {rm : Room} {rest : List Value} {r9 : UInt64} {M9 : Mm} (As9 : List Value) (hM : ∀ sz, Met l y (.code y b n rt :: TT) rm (va_Pc (As9) (fun U9 => U9.heap.size = sz ∧ wB D cs ad (fA ad sz) M U9 ∧ xX (fA ad sz) U9 U9.heap)) (va_Qd (fun r M2 => r = r9 ∧ M2 = M9) (wB D cs ad (fA ad sz)) (fA ad sz)) 0 0 (fA ad sz)) (hG : GoodIn TT (va_wsS own idx y (.code y b n rt :: TT))) (hrm : rm.cells = 0 ∧ rm.slots = 0) (hyd : y.cls ≠ "java/lang/invoke/MethodHandle" ∧ y.cls ≠ "java/lang/invoke/VarHandle" ∧ (parseMethodDescriptor y.desc).map (fun d => d.parameters.length) = some nA) (hR : rm.frames + 1 ≤ fr ∧ 8 + (n + 11) + rm.locals ≤ lo) (hn : As9.length = nA) (hst : st = As9.reverse ++ rest) (hW8 : (rest.map fun v => v.category).sum ≤ 8) (d : decode cc pc = .ok (.invokestatic idx, 3)) (k : VV l D cs ad nL κ u M9 (pc + 3) lv (.double r9 :: rest)) : VV l D cs ad nL κ u M pc lv st := r_ncallS2_d C hN hu As9 hM hG hrm hyd hR hn hst hW8 d (fun r M2 h => by obtain ⟨h1, h2⟩ := h; rw [h1, h2]; exact k)
theorem r_ncallV_d (C : CX D cs ad cc nL own fr lo U κ) (hN : CN ad κ) (hu : u ≤ U) {y : MethodName} {b : ByteArray} {n nA idx : Nat} {rt : Option FieldType} {rm : Room} {rest : List Value} {Cn : String} {ci id : Nat} {q9 : vw_C} {fs : List Value} {post : UInt64 → Mm → Prop} (As9 : List Value) (hM : ∀ sz, Met l y (.code y b n rt :: TT) rm (va_Pc (.ref (ad id) :: As9) (fun U9 => U9.heap.size = sz ∧ wB D cs ad (fA ad sz) M U9 ∧ xX (fA ad sz) U9 U9.heap)) (va_Qd post (wB D cs ad (fA ad sz)) (fA ad sz)) 0 0 (fA ad sz)) (hG : GoodIn TT (wsV own idx Cn y (.code y b n rt :: TT))) (hrm : rm.cells = 0 ∧ rm.slots = 0) (hyd : y.cls = Cn ∧ y.cls ≠ "java/lang/invoke/MethodHandle" ∧ y.cls ≠ "java/lang/invoke/VarHandle" ∧ (parseMethodDescriptor y.desc).map (fun d => d.parameters.length) = some nA) (hR : rm.frames + 1 ≤ fr ∧ 8 + (n + 11) + rm.locals ≤ lo) (hid : id < 140) (he : wF cs ad id (M.1 id) (M.2 id) = .inr (ci, fs)) (hc : vwCl[ci]? = some q9) (hq9 : q9.1 = Cn) (hn : As9.length = nA) (hst : st = As9.reverse ++ .ref (ad id) :: rest) (hW8 : (rest.map fun v => v.category).sum ≤ 8) (d : decode cc pc = .ok (.invokevirtual idx, 3)) (k : ∀ (r : UInt64) (M2 : Mm), post r M2 → VV l D cs ad nL κ u M2 (pc + 3) lv (.double r :: rest)) : VV l D cs ad nL κ u M pc lv st := by
  obtain ⟨p, e, R, s, m, args, below, meth, c, c0, s0, Q⟩ := κ
  obtain ⟨hx, hb, hml, hown, hts, hK, hD, hfr, hlo, hc0, hs0⟩ := C
  intro H locs ls hP hS hl
  subst hst
  refine va_calld (va_runV (As := As9) (rest := rest) ⟨hx, hb, hml, hown, hts⟩ (hM H.size) (cwV nA hts hG rfl hrm.1 hrm.2 hyd ⟨by rw [hfr]; exact hR.1, by rw [hlo]; exact hR.2⟩) ⟨fb_N, ?_, pr_N hK hP (hD M) (hN.now hS)⟩ rfl hn hl.1 rfl (lv_room hW8) d ⟨by omega, by omega⟩) hS (fun q _ h => fA_mono hS.1 h) (fun q h => fA_mono hS.1 h) (fun r M2 t H1 locs1 ht hvm hw hB hz1 hk1 hS1 => ?_)
  · have h9 := va_recv hK hP hc (show (wW cs ad M)[id]? = _ by rw [wW_get cs ad M hid, he])
    rw [hq9] at h9
    exact h9
  · exact k r M2 hw H1 locs1 ls (by rw [← ht]; exact hB.1) hS1 hl
theorem r_npcallV_d (C : CX D cs ad cc nL own fr lo U κ) (hN : CN ad κ) (hu : u ≤ U) {y : MethodName} {b : ByteArray} {n nA idx : Nat} {rt : Option FieldType} {rm : Room} {rest : List Value} {Cn : String} {ci id : Nat} {q9 : vw_C} {fs : List Value} {r9 : UInt64} {M9 : Mm} (As9 : List Value) (hM : ∀ sz, Met l y (.code y b n rt :: TT) rm (va_Pc (.ref (ad id) :: As9) (fun U9 => U9.heap.size = sz ∧ wB D cs ad (fA ad sz) M U9 ∧ xX (fA ad sz) U9 U9.heap)) (va_Qd (fun r M2 => r = r9 ∧ M2 = M9) (wB D cs ad (fA ad sz)) (fA ad sz)) 0 0 (fA ad sz)) (hG : GoodIn TT (wsV own idx Cn y (.code y b n rt :: TT))) (hrm : rm.cells = 0 ∧ rm.slots = 0) (hyd : y.cls = Cn ∧ y.cls ≠ "java/lang/invoke/MethodHandle" ∧ y.cls ≠ "java/lang/invoke/VarHandle" ∧ (parseMethodDescriptor y.desc).map (fun d => d.parameters.length) = some nA) (hR : rm.frames + 1 ≤ fr ∧ 8 + (n + 11) + rm.locals ≤ lo) (hid : id < 140) (he : wF cs ad id (M.1 id) (M.2 id) = .inr (ci, fs)) (hc : vwCl[ci]? = some q9) (hq9 : q9.1 = Cn) (hn : As9.length = nA) (hst : st = As9.reverse ++ .ref (ad id) :: rest) (hW8 : (rest.map fun v => v.category).sum ≤ 8) (d : decode cc pc = .ok (.invokevirtual idx, 3)) (k : VV l D cs ad nL κ u M9 (pc + 3) lv (.double r9 :: rest)) : VV l D cs ad nL κ u M pc lv st := r_ncallV_d C hN hu As9 hM hG hrm hyd hR hid he hc hq9 hn hst hW8 d (fun r M2 h => by obtain ⟨h1, h2⟩ := h; rw [h1, h2]; exact k)
theorem r_ncallS_v (C : CX D cs ad cc nL own fr lo U κ) (hN : CN ad κ) (hu : u ≤ U) {y : MethodName} {b : ByteArray} {n nA idx : Nat} {rt : Option FieldType} {rm : Room} {rest : List Value} {post : Mm → Prop} (As9 : List Value) (hM : ∀ sz, Met l y (.code y b n rt :: TT) rm (va_Pc (As9) (fun U9 => U9.heap.size = sz ∧ wB D cs ad (fA ad sz) M U9 ∧ xX (fA ad sz) U9 U9.heap)) (va_Qv post (wB D cs ad (fA ad sz)) (fA ad sz)) 0 0 (fA ad sz)) (hG : GoodIn TT (wsS own idx y (.code y b n rt :: TT))) (hrm : rm.cells = 0 ∧ rm.slots = 0) (hyd : y.cls = own ∧ y.cls ≠ "java/lang/invoke/MethodHandle" ∧ y.cls ≠ "java/lang/invoke/VarHandle" ∧ (parseMethodDescriptor y.desc).map (fun d => d.parameters.length) = some nA) (hR : rm.frames + 1 ≤ fr ∧ 8 + (n + 11) + rm.locals ≤ lo) (hn : As9.length = nA) (hst : st = As9.reverse ++ rest) (hW8 : (rest.map fun v => v.category).sum ≤ 8) (d : decode cc pc = .ok (.invokestatic idx, 3)) (k : ∀ (M2 : Mm), post M2 → VV l D cs ad nL κ u M2 (pc + 3) lv rest) : VV l D cs ad nL κ u M pc lv st := by
  obtain ⟨p, e, R, s, m, args, below, meth, c, c0, s0, Q⟩ := κ
  obtain ⟨hx, hb, hml, hown, hts, hK, hD, hfr, hlo, hc0, hs0⟩ := C
  intro H locs ls hP hS hl
  subst hst
  refine va_callv (va_runS (As := As9) (rest := rest) ⟨hx, hb, hml, hown, hts⟩ (hM H.size) (cwS nA hts hG rfl hrm.1 hrm.2 hyd ⟨by rw [hfr]; exact hR.1, by rw [hlo]; exact hR.2⟩) ⟨fb_N, pr_N hK hP (hD M) (hN.now hS)⟩ rfl hn hl.1 rfl (lv_room hW8) d ⟨by omega, by omega⟩) hS (fun q _ h => fA_mono hS.1 h) (fun q h => fA_mono hS.1 h) (fun M2 t H1 locs1 ht hvm hw hB hz1 hk1 hS1 => ?_)
  exact k M2 hw H1 locs1 ls (by rw [← ht]; exact hB.1) hS1 hl
theorem r_npcallS_v (C : CX D cs ad cc nL own fr lo U κ) (hN : CN ad κ) (hu : u ≤ U) {y : MethodName} {b : ByteArray} {n nA idx : Nat} {rt : Option FieldType} {rm : Room} {rest : List Value} {M9 : Mm} (As9 : List Value) (hM : ∀ sz, Met l y (.code y b n rt :: TT) rm (va_Pc (As9) (fun U9 => U9.heap.size = sz ∧ wB D cs ad (fA ad sz) M U9 ∧ xX (fA ad sz) U9 U9.heap)) (va_Qv (fun M2 => M2 = M9) (wB D cs ad (fA ad sz)) (fA ad sz)) 0 0 (fA ad sz)) (hG : GoodIn TT (wsS own idx y (.code y b n rt :: TT))) (hrm : rm.cells = 0 ∧ rm.slots = 0) (hyd : y.cls = own ∧ y.cls ≠ "java/lang/invoke/MethodHandle" ∧ y.cls ≠ "java/lang/invoke/VarHandle" ∧ (parseMethodDescriptor y.desc).map (fun d => d.parameters.length) = some nA) (hR : rm.frames + 1 ≤ fr ∧ 8 + (n + 11) + rm.locals ≤ lo) (hn : As9.length = nA) (hst : st = As9.reverse ++ rest) (hW8 : (rest.map fun v => v.category).sum ≤ 8) (d : decode cc pc = .ok (.invokestatic idx, 3)) (k : VV l D cs ad nL κ u M9 (pc + 3) lv (rest)) : VV l D cs ad nL κ u M pc lv st := r_ncallS_v C hN hu As9 hM hG hrm hyd hR hn hst hW8 d (fun M2 h => by rw [h]; exact k)
theorem r_ncallS2_v (C : CX D cs ad cc nL own fr lo U κ) (hN : CN ad κ) (hu : u ≤ U) {y : MethodName} {b : ByteArray} {n nA idx : Nat} {rt : Option FieldType} {rm : Room} {rest : List Value} {post : Mm → Prop} (As9 : List Value) (hM : ∀ sz, Met l y (.code y b n rt :: TT) rm (va_Pc (As9) (fun U9 => U9.heap.size = sz ∧ wB D cs ad (fA ad sz) M U9 ∧ xX (fA ad sz) U9 U9.heap)) (va_Qv post (wB D cs ad (fA ad sz)) (fA ad sz)) 0 0 (fA ad sz)) (hG : GoodIn TT (va_wsS own idx y (.code y b n rt :: TT))) (hrm : rm.cells = 0 ∧ rm.slots = 0) (hyd : y.cls ≠ "java/lang/invoke/MethodHandle" ∧ y.cls ≠ "java/lang/invoke/VarHandle" ∧ (parseMethodDescriptor y.desc).map (fun d => d.parameters.length) = some nA) (hR : rm.frames + 1 ≤ fr ∧ 8 + (n + 11) + rm.locals ≤ lo) (hn : As9.length = nA) (hst : st = As9.reverse ++ rest) (hW8 : (rest.map fun v => v.category).sum ≤ 8) (d : decode cc pc = .ok (.invokestatic idx, 3)) (k : ∀ (M2 : Mm), post M2 → VV l D cs ad nL κ u M2 (pc + 3) lv rest) : VV l D cs ad nL κ u M pc lv st := by
  obtain ⟨p, e, R, s, m, args, below, meth, c, c0, s0, Q⟩ := κ
  obtain ⟨hx, hb, hml, hown, hts, hK, hD, hfr, hlo, hc0, hs0⟩ := C
  intro H locs ls hP hS hl
  subst hst
  refine va_callv (va_runS (As := As9) (rest := rest) ⟨hx, hb, hml, hown, hts⟩ (hM H.size) (va_cwS nA hts hG rfl hrm.1 hrm.2 hyd ⟨by rw [hfr]; exact hR.1, by rw [hlo]; exact hR.2⟩) ⟨fb_N, pr_N hK hP (hD M) (hN.now hS)⟩ rfl hn hl.1 rfl (lv_room hW8) d ⟨by omega, by omega⟩) hS (fun q _ h => fA_mono hS.1 h) (fun q h => fA_mono hS.1 h) (fun M2 t H1 locs1 ht hvm hw hB hz1 hk1 hS1 => ?_)
  exact k M2 hw H1 locs1 ls (by rw [← ht]; exact hB.1) hS1 hl
theorem r_npcallS2_v (C : CX D cs ad cc nL own fr lo U κ) (hN : CN ad κ) (hu : u ≤ U) {y : MethodName} {b : ByteArray} {n nA idx : Nat} {rt : Option FieldType} {rm : Room} {rest : List Value} {M9 : Mm} (As9 : List Value) (hM : ∀ sz, Met l y (.code y b n rt :: TT) rm (va_Pc (As9) (fun U9 => U9.heap.size = sz ∧ wB D cs ad (fA ad sz) M U9 ∧ xX (fA ad sz) U9 U9.heap)) (va_Qv (fun M2 => M2 = M9) (wB D cs ad (fA ad sz)) (fA ad sz)) 0 0 (fA ad sz)) (hG : GoodIn TT (va_wsS own idx y (.code y b n rt :: TT))) (hrm : rm.cells = 0 ∧ rm.slots = 0) (hyd : y.cls ≠ "java/lang/invoke/MethodHandle" ∧ y.cls ≠ "java/lang/invoke/VarHandle" ∧ (parseMethodDescriptor y.desc).map (fun d => d.parameters.length) = some nA) (hR : rm.frames + 1 ≤ fr ∧ 8 + (n + 11) + rm.locals ≤ lo) (hn : As9.length = nA) (hst : st = As9.reverse ++ rest) (hW8 : (rest.map fun v => v.category).sum ≤ 8) (d : decode cc pc = .ok (.invokestatic idx, 3)) (k : VV l D cs ad nL κ u M9 (pc + 3) lv (rest)) : VV l D cs ad nL κ u M pc lv st := r_ncallS2_v C hN hu As9 hM hG hrm hyd hR hn hst hW8 d (fun M2 h => by rw [h]; exact k)
theorem r_ncallV_v (C : CX D cs ad cc nL own fr lo U κ) (hN : CN ad κ) (hu : u ≤ U) {y : MethodName} {b : ByteArray} {n nA idx : Nat} {rt : Option FieldType} {rm : Room} {rest : List Value} {Cn : String} {ci id : Nat} {q9 : vw_C} {fs : List Value} {post : Mm → Prop} (As9 : List Value) (hM : ∀ sz, Met l y (.code y b n rt :: TT) rm (va_Pc (.ref (ad id) :: As9) (fun U9 => U9.heap.size = sz ∧ wB D cs ad (fA ad sz) M U9 ∧ xX (fA ad sz) U9 U9.heap)) (va_Qv post (wB D cs ad (fA ad sz)) (fA ad sz)) 0 0 (fA ad sz)) (hG : GoodIn TT (wsV own idx Cn y (.code y b n rt :: TT))) (hrm : rm.cells = 0 ∧ rm.slots = 0) (hyd : y.cls = Cn ∧ y.cls ≠ "java/lang/invoke/MethodHandle" ∧ y.cls ≠ "java/lang/invoke/VarHandle" ∧ (parseMethodDescriptor y.desc).map (fun d => d.parameters.length) = some nA) (hR : rm.frames + 1 ≤ fr ∧ 8 + (n + 11) + rm.locals ≤ lo) (hid : id < 140) (he : wF cs ad id (M.1 id) (M.2 id) = .inr (ci, fs)) (hc : vwCl[ci]? = some q9) (hq9 : q9.1 = Cn) (hn : As9.length = nA) (hst : st = As9.reverse ++ .ref (ad id) :: rest) (hW8 : (rest.map fun v => v.category).sum ≤ 8) (d : decode cc pc = .ok (.invokevirtual idx, 3)) (k : ∀ (M2 : Mm), post M2 → VV l D cs ad nL κ u M2 (pc + 3) lv rest) : VV l D cs ad nL κ u M pc lv st := by
  obtain ⟨p, e, R, s, m, args, below, meth, c, c0, s0, Q⟩ := κ
  obtain ⟨hx, hb, hml, hown, hts, hK, hD, hfr, hlo, hc0, hs0⟩ := C
  intro H locs ls hP hS hl
  subst hst
  refine va_callv (va_runV (As := As9) (rest := rest) ⟨hx, hb, hml, hown, hts⟩ (hM H.size) (cwV nA hts hG rfl hrm.1 hrm.2 hyd ⟨by rw [hfr]; exact hR.1, by rw [hlo]; exact hR.2⟩) ⟨fb_N, ?_, pr_N hK hP (hD M) (hN.now hS)⟩ rfl hn hl.1 rfl (lv_room hW8) d ⟨by omega, by omega⟩) hS (fun q _ h => fA_mono hS.1 h) (fun q h => fA_mono hS.1 h) (fun M2 t H1 locs1 ht hvm hw hB hz1 hk1 hS1 => ?_)
  · have h9 := va_recv hK hP hc (show (wW cs ad M)[id]? = _ by rw [wW_get cs ad M hid, he])
    rw [hq9] at h9
    exact h9
  · exact k M2 hw H1 locs1 ls (by rw [← ht]; exact hB.1) hS1 hl
theorem r_npcallV_v (C : CX D cs ad cc nL own fr lo U κ) (hN : CN ad κ) (hu : u ≤ U) {y : MethodName} {b : ByteArray} {n nA idx : Nat} {rt : Option FieldType} {rm : Room} {rest : List Value} {Cn : String} {ci id : Nat} {q9 : vw_C} {fs : List Value} {M9 : Mm} (As9 : List Value) (hM : ∀ sz, Met l y (.code y b n rt :: TT) rm (va_Pc (.ref (ad id) :: As9) (fun U9 => U9.heap.size = sz ∧ wB D cs ad (fA ad sz) M U9 ∧ xX (fA ad sz) U9 U9.heap)) (va_Qv (fun M2 => M2 = M9) (wB D cs ad (fA ad sz)) (fA ad sz)) 0 0 (fA ad sz)) (hG : GoodIn TT (wsV own idx Cn y (.code y b n rt :: TT))) (hrm : rm.cells = 0 ∧ rm.slots = 0) (hyd : y.cls = Cn ∧ y.cls ≠ "java/lang/invoke/MethodHandle" ∧ y.cls ≠ "java/lang/invoke/VarHandle" ∧ (parseMethodDescriptor y.desc).map (fun d => d.parameters.length) = some nA) (hR : rm.frames + 1 ≤ fr ∧ 8 + (n + 11) + rm.locals ≤ lo) (hid : id < 140) (he : wF cs ad id (M.1 id) (M.2 id) = .inr (ci, fs)) (hc : vwCl[ci]? = some q9) (hq9 : q9.1 = Cn) (hn : As9.length = nA) (hst : st = As9.reverse ++ .ref (ad id) :: rest) (hW8 : (rest.map fun v => v.category).sum ≤ 8) (d : decode cc pc = .ok (.invokevirtual idx, 3)) (k : VV l D cs ad nL κ u M9 (pc + 3) lv (rest)) : VV l D cs ad nL κ u M pc lv st := r_ncallV_v C hN hu As9 hM hG hrm hyd hR hid he hc hq9 hn hst hW8 d (fun M2 h => by rw [h]; exact k)
/-- a static call of a private method of a nest mate -/
theorem r_nest_i (C : CX D cs ad cc nL own fr lo U κ) (hN : CN ad κ) (hu : u ≤ U) {y : MethodName} {b : ByteArray} {n nA idx : Nat} {rt : Option FieldType} {rm : Room} {rest : List Value} {host : String} {r9 : Int32} {M9 : Mm} (As9 : List Value) (hM : ∀ sz, Met l y (.code y b n rt :: TT) rm (va_Pc As9 (fun U9 => U9.heap.size = sz ∧ wB D cs ad (fA ad sz) M U9)) (va_Qi (fun r M2 => r = r9 ∧ M2 = M9) (wB D cs ad (fA ad sz)) (fA ad sz)) 0 0 (fA ad sz)) (hw9 : Cond.methodLinkNest own idx y host ∈ xNw) (hG1 : Cond.static y ∈ TT) (hG2 : Cond.initialized y.cls ∈ TT) (hG3 : Cond.code y b n rt ∈ TT) (hrm : rm.cells = 0 ∧ rm.slots = 0) (hyd : y.cls ≠ "java/lang/invoke/MethodHandle" ∧ y.cls ≠ "java/lang/invoke/VarHandle" ∧ (parseMethodDescriptor y.desc).map (fun d => d.parameters.length) = some nA) (hR : rm.frames + 1 ≤ fr ∧ 8 + (n + 11) + rm.locals ≤ lo) (hn : As9.length = nA) (hst : st = As9.reverse ++ rest) (hW8 : (rest.map fun v => v.category).sum ≤ 8) (d : decode cc pc = .ok (.invokestatic idx, 3)) (k : VV l D cs ad nL κ u M9 (pc + 3) lv (.int r9 :: rest)) : VV l D cs ad nL κ u M pc lv st := by
  obtain ⟨p, e, R, s, m, args, below, meth, c, c0, s0, Q⟩ := κ
  obtain ⟨hx, hb, hml, hown, hts, hK, hD, hfr, hlo, hc0, hs0⟩ := C
  intro H locs ls hP hS hl
  subst hst
  refine va_calli (va_runSN (As := As9) (rest := rest) ⟨hx, hb, hml, hown, hts⟩ (hM H.size) ⟨va_cnB nA hts (tt_in (tt_c hG3 fun _ h => h)) rfl hrm.1 hrm.2 (hN _ hw9) (hts _ hG2) hyd ⟨by rw [hfr]; exact hR.1, by rw [hlo]; exact hR.2⟩, hts _ hG1, trivial⟩ ⟨fb_B, pr_B hK hP (hD M)⟩ rfl hn hl.1 rfl (lv_room hW8) d ⟨by omega, by omega⟩) hS (fun q _ h => fA_mono hS.1 h) (fun q h => fA_mono hS.1 h) (fun r M2 t H1 locs1 ht hvm hw hB hz1 hk1 hS1 => ?_)
  obtain ⟨h1, h2⟩ := hw
  subst h1; subst h2
  exact k H1 locs1 ls (by rw [← ht]; exact hB.1) hS1 hl
end CVS
