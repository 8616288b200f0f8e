/-! ===== the law's methods: bodies with handlers, catching, calls of them (by hand) ===== -/
theorem met_ofWH {l : Launch} {y : MethodName} {ws ws' : List Cond} {rm : Room} {Pc : Array Value → State → Prop} {Qc : Array Value → State → Outcome → State → Prop} {mc ms : Nat} {free : Addr → Prop} {cc : ByteArray} {maxL : Nat} {ret : Option FieldType} {hh : List (Nat × Nat × Nat × Nat)}
    (hy : plainName y.cls = true) (hw : ws = Cond.codeWith y cc maxL ret hh :: ws')
    (body : ∀ p e s m args below meth c s₁, BodyLoose p l y (headSpec ws rm) cc maxL ret e s m args below meth c s₁ → c.maxLocals = maxL → Pc args s →
      W p l e (headSpec ws rm).room s m args below meth c s.heap [] 0 0 (MQ below Qc args s mc ms free) (entryFrame m args maxL)) : Met l y ws rm Pc Qc mc ms free := by
  refine MetFree.of_bodyS (code := cc) (maxLocals := maxL) (ret := ret) hy ?_ ?_
  · intro args s m h hn
    obtain ⟨m9, meth, c, hn9, h1, h2, h3, h4, -, h5, h6, -⟩ := Cond.codeWith_spec (atoms_spec (ws := ws) h _ (by rw [hw]; exact List.mem_cons_self))
    cases hn.symm.trans hn9
    exact ⟨meth, c, h1, h2, h3, h4, h5, h6⟩
  · intro p e s m args below meth c s₁ B hml hP _
    have hh0 : s₁.heap = s.heap := by rw [B.state]; rfl
    obtain ⟨t, a1, o, b1, b2, b3⟩ := body p e s m args below meth c s₁ B hml hP s₁ hh0 (Stand.of_body B)
    exact ⟨t, o, a1, b1, b2, ⟨b3.1, b3.2⟩⟩
/-- the method's handlers -/
def CH (hh : List (Nat × Nat × Nat × Nat)) : Kx → Prop
  | (_, _, _, _, _, _, _, _, c, _, _, _) => c.exceptionTable.toList = tableOf hh
theorem tt_W {own : String} {idx : Nat} {y : MethodName} {b : ByteArray} {n : Nat} {rt : Option FieldType} {hh : List (Nat × Nat × Nat × Nat)} (h1 : Cond.methodLink own idx y ∈ TT) (h2 : Cond.static y ∈ TT) (h3 : Cond.initialized y.cls ∈ TT) (h4 : Cond.codeWith y b n rt hh ∈ TT) : GoodIn TT (va_wsS own idx y (.codeWith y b n rt hh :: TT)) := tt_in (tt_c h1 (tt_c h2 (tt_c h3 (tt_c h4 fun _ h => h))))
section LVS
variable {l : Launch} {D : va_G} {cs : Nat → ClassId} {ad : Nat → Nat} {nL : Nat} {κ : Kx} {u : Nat} {M : Mm} {pc : Nat} {lv : List (Nat × Value)} {st : List Value} {cc : ByteArray} {own : String} {fr lo U : Nat}
/-- a method of the law's with handlers: at most u1 exceptions -/
theorem st_W {u1 : Nat} {y : MethodName} {b : ByteArray} {n : Nat} {hh : List (Nat × Nat × Nat × Nat)} {As : List Value} {post : Int32 → Mm → Prop} (hy : plainName y.cls = true) (hAs : (lg_sl As).length ≤ n) (body : ∀ κ, CX D cs ad b n y.cls fr lo u1 κ → CN ad κ → CH hh κ → eI l D cs ad n b u1 κ post → VV l D cs ad n κ 0 M 0 (lv_args 0 As) []) (sz : Nat) : Met l y (.codeWith y b n (some .int) hh :: TT) { frames := fr, cells := u1, slots := 6 * u1, locals := lo } (va_Pc As (fun U9 => U9.heap.size = sz ∧ wB D cs ad (fA ad sz) M U9 ∧ xX (fA ad sz) U9 U9.heap)) (va_Qi post (wB D cs ad (fA ad sz)) (fA ad sz)) u1 (6 * u1) (fA ad sz) := by
  refine met_ofWH (cc := b) (maxL := n) (ret := (some .int)) (hh := hh) hy rfl ?_
  intro p e s m args below meth c s₁ B hml hv
  obtain ⟨rfl, hsz, ⟨hP, hK, hD0⟩, hX⟩ := hv
  have hx := B.exec
  have hb := B.bytes
  have hr := B.returns
  have hts0 := atoms_spec (ws := .codeWith y b n (some .int) hh :: TT) B.pre
  have htab := vx_table (x := y) B (hts0 _ List.mem_cons_self)
  have hts : ∀ w ∈ TT, w.before As.toArray s = true := fun w hw => hts0 w (List.mem_cons_of_mem _ hw)
  have hown := findClass_of_methodNamed B.named
  have hlocks := B.notSynchronized
  subst hsz
  have hD : ∀ M, va_D (fA ad s.heap.size) (wW cs ad M) := fun M' => wD_any (fun i hi => fA_in hi) hD0 M'
  have hl := lv_entry As (n := n) hAs
  rw [lg_entry_eq]
  generalize (lg_sl As ++ List.replicate (n - (lg_sl As).length) Slot.unset).toArray = ls at hl ⊢
  refine body (p, e, _, s, m, As.toArray, below, meth, c, 0, 0, _) ⟨hx, hb, hml, hown, hts, hK, hD, rfl, rfl, Nat.le_of_eq (Nat.zero_add u1), Nat.le_of_eq (Nat.zero_add (6 * u1))⟩ hX htab ?_ s.heap [] ls hP va_S.rf hl
  intro u M2 pc lv v hu d hpost
  intro H locs ls hP hS hl
  refine W.widen (k := u1) (n := 6 * u1) (by omega) (by omega) ?_
  exact W.iret hx hb hr (fun t ht hW => ⟨⟨v, M2, rfl, hpost, by rw [ht]; exact hP, va_K.moved hW.alike hK, hD M2⟩, hS.F ht⟩) hS.2.2 d hlocks
/-- a call of a method with handlers, of this class -/
theorem r_wcall (C : CX D cs ad cc nL own fr lo U κ) (hN : CN ad κ) {u1 : Nat} (hu : u + u1 ≤ U) {y : MethodName} {b : ByteArray} {n nA idx fr9 lo9 : Nat} {hh : List (Nat × Nat × Nat × Nat)} {rest : List Value} {post : Int32 → Mm → Prop} (As9 : List Value) (hM : ∀ sz, Met l y (.codeWith y b n (some .int) hh :: TT) { frames := fr9, cells := u1, slots := 6 * u1, locals := lo9 } (va_Pc As9 (fun U9 => U9.heap.size = sz ∧ wB D cs ad (fA ad sz) M U9 ∧ xX (fA ad sz) U9 U9.heap)) (va_Qi post (wB D cs ad (fA ad sz)) (fA ad sz)) u1 (6 * u1) (fA ad sz)) (hG : GoodIn TT (va_wsS own idx y (.codeWith y b n (some .int) hh :: TT))) (hyd : y.cls ≠ "java/lang/invoke/MethodHandle" ∧ y.cls ≠ "java/lang/invoke/VarHandle" ∧ (parseMethodDescriptor y.desc).map (fun d => d.parameters.length) = some nA) (hR : fr9 + 1 ≤ fr ∧ 8 + (n + 11) + lo9 ≤ lo) (hn : As9.length = nA) (hst : st = As9.reverse ++ rest) (hW8 : (rest.map fun v => v.category).sum ≤ 8) (d : decode cc pc = .ok (.invokestatic idx, 3)) (k : ∀ (r : Int32) (M2 : Mm), post r M2 → VV l D cs ad nL κ (u + u1) M2 (pc + 3) lv (.int r :: rest)) : VV l D cs ad nL κ u M pc lv st := by
  obtain ⟨p, e, R, s, m, args, below, meth, c, c0, s0, Q⟩ := κ
  obtain ⟨hx, hb, hml, hown, hts, hK, hD, hfr, hlo, hc0, hs0⟩ := C
  intro H locs ls hP hS hl
  subst hst
  refine va_calli (vx_runSW (As := As9) (rest := rest) ⟨hx, hb, hml, hown, hts⟩ (hM H.size) (vx_cwSW nA hts hG rfl rfl rfl hyd ⟨by rw [hfr]; exact hR.1, by rw [hlo]; exact hR.2⟩) ⟨fb_N, pr_N hK hP (hD M) (hN.now hS)⟩ rfl hn hl.1 rfl (lv_room hW8) d ⟨by omega, by omega⟩) hS (fun q _ h => fA_mono hS.1 h) (fun q h => fA_mono hS.1 h) (fun r M2 t H1 locs1 ht hvm hw hB hz1 hk1 hS1 => ?_)
  rw [show c0 + u + u1 = c0 + (u + u1) by omega, show s0 + 6 * u + 6 * u1 = s0 + 6 * (u + u1) by omega]
  exact k r M2 hw H1 locs1 ls (by rw [← ht]; exact hB.1) hS1 hl
/-- a call of the class's that throws E, caught here by the row x of the method's table -/
theorem r_catch_i (C : CX D cs ad cc nL own fr lo U κ) (hN : CN ad κ) {hh : List (Nat × Nat × Nat × Nat)} (hT : CH hh κ) (hu : u + 1 ≤ U) {E : String} {px2 : Mm → Prop} {y : MethodName} {b : ByteArray} {n nA idx : Nat} {rt : Option FieldType} {rm : Room} {rest : List Value} {Cn : String} {ci id : Nat} {q9 : vw_C} {fs : List Value} (As9 : List Value) (hM : ∀ sz, vx_Met l y (.code y b n rt :: TT) rm (va_Pc (.ref (ad id) :: As9) (fun U9 => U9.heap.size = sz ∧ wB D cs ad (fA ad sz) M U9 ∧ xX (fA ad sz) U9 U9.heap)) (va_Qi (fun _ (_ : Mm) => False) (wB D cs ad (fA ad sz)) (fA ad sz)) (vx_X px2 (fun E9 M2 t => E9 = E ∧ wB D cs ad (fA ad sz) M2 t) (fA ad sz)) 1 6 (fA ad sz)) (hG : GoodIn TT (wsV own idx Cn y (.code y b n rt :: TT))) (hrm : rm.cells = 1 ∧ rm.slots = 6) (hyd : y.cls = Cn ∧ y.cls ≠ "java/lang/invoke/MethodHandle" ∧ y.cls ≠ "java/lang/invoke/VarHandle" ∧ (parseMethodDescriptor y.desc).map (fun d => d.parameters.length) = some nA) (hR : rm.frames + 1 ≤ fr ∧ 8 + (n + 11) + rm.locals ≤ lo) (hid : id < 146) (he : wF cs ad id (M.1 id) (M.2 id) = .inr (ci, fs)) (hc : vwCl[ci]? = some q9) (hq9 : q9.1 = Cn) (hn : As9.length = nA) (hst : st = As9.reverse ++ .ref (ad id) :: rest) (hW8 : (rest.map fun v => v.category).sum ≤ 8) (d : decode cc pc = .ok (.invokevirtual idx, 3))
    (pre : List ExceptionTableEntry) (x : ExceptionTableEntry) (suf : List ExceptionTableEntry) (hsplit : tableOf hh = pre ++ x :: suf) (hpass : ∀ z ∈ pre, z.catchType ≠ 0 ∧ ∃ nm : String, Cond.classLink own z.catchType nm ∈ TT ∧ (E, nm) ∈ xNc) (hx9 : covers x pc = true) (h0 : x.catchType ≠ 0) (hlink : Cond.classLink own x.catchType E ∈ TT) (hcast : Cond.castable E E ∈ xNw)
    (k : ∀ (q9 : Nat) (M2 : Mm), px2 M2 → VV l D cs ad nL κ (u + 1) M2 x.handlerPc lv [.ref q9]) : VV l D cs ad nL κ u M pc lv st := by
  obtain ⟨p, e, R, s, m, args, below, meth, c, c0, s0, Q⟩ := κ
  obtain ⟨hx, hb, hml, hown, hts, hK, hD, hfr, hlo, hc0, hs0⟩ := C
  intro H locs ls hP hS hl
  subst hst
  obtain ⟨n1, n2, n3, n4, n5⟩ := (show xX _ _ _ from hN)
  refine vx_calli (vx_runV (As := As9) (rest := rest) ⟨hx, hb, hml, hown, hts⟩ (hM H.size) (cwV nA hts hG rfl hrm.1 hrm.2 hyd ⟨by rw [hfr]; exact hR.1, by rw [hlo]; exact hR.2⟩) ⟨fb_N, ?_, pr_N hK hP (hD M) (hN.now hS)⟩ rfl hn hl.1 rfl (lv_room hW8) d ⟨by omega, by omega⟩) hS (fun q _ h => fA_mono hS.1 h) (fun q h => fA_mono hS.1 h) (fun q _ h => fA_mono hS.1 h) (fun E9 ce q9 M2 t H1 locs1 ht hvm hw hB hz1 hk1 hS1 hce hcv hcl => ?_) (fun r M2 t H1 locs1 ht hvm hw hB hz1 hk1 hS1 => hw.elim)
  · have h9 := va_recv hK hP hc (show (wW cs ad M)[id]? = _ by rw [wW_get cs ad M hid, he])
    rw [hq9] at h9
    exact h9
  · obtain ⟨hE, hB⟩ := hB
    subst hE
    rw [show c0 + u + 1 = c0 + (u + 1) by omega, show s0 + 6 * u + 6 = s0 + 6 * (u + 1) by omega]
    exact vx_catch hown pre x suf (by rw [← hsplit]; exact hT) (fun z hz => by
      obtain ⟨h1, nm, h2, h3⟩ := hpass z hz
      exact Or.inr ⟨h1, nm, hts _ h2, n5 _ h3⟩) hx9 h0 (hts _ hlink) (va_tabs (xk_ot (xNw_k _ hcast)) rfl (n4 _ hcast)) hce hcv hcl (k q9 M2 hw H1 locs1 ls (by rw [← ht]; exact hB.1) hS1 hl)
/-- a call of the class's that throws E, caught here by the row x of the method's table -/
theorem r_catch_l (C : CX D cs ad cc nL own fr lo U κ) (hN : CN ad κ) {hh : List (Nat × Nat × Nat × Nat)} (hT : CH hh κ) (hu : u + 1 ≤ U) {E : String} {px2 : Mm → Prop} {y : MethodName} {b : ByteArray} {n nA idx : Nat} {rt : Option FieldType} {rm : Room} {rest : List Value} {Cn : String} {ci id : Nat} {q9 : vw_C} {fs : List Value} (As9 : List Value) (hM : ∀ sz, vx_Met l y (.code y b n rt :: TT) rm (va_Pc (.ref (ad id) :: As9) (fun U9 => U9.heap.size = sz ∧ wB D cs ad (fA ad sz) M U9 ∧ xX (fA ad sz) U9 U9.heap)) (va_Ql (fun _ (_ : Mm) => False) (wB D cs ad (fA ad sz)) (fA ad sz)) (vx_X px2 (fun E9 M2 t => E9 = E ∧ wB D cs ad (fA ad sz) M2 t) (fA ad sz)) 1 6 (fA ad sz)) (hG : GoodIn TT (wsV own idx Cn y (.code y b n rt :: TT))) (hrm : rm.cells = 1 ∧ rm.slots = 6) (hyd : y.cls = Cn ∧ y.cls ≠ "java/lang/invoke/MethodHandle" ∧ y.cls ≠ "java/lang/invoke/VarHandle" ∧ (parseMethodDescriptor y.desc).map (fun d => d.parameters.length) = some nA) (hR : rm.frames + 1 ≤ fr ∧ 8 + (n + 11) + rm.locals ≤ lo) (hid : id < 146) (he : wF cs ad id (M.1 id) (M.2 id) = .inr (ci, fs)) (hc : vwCl[ci]? = some q9) (hq9 : q9.1 = Cn) (hn : As9.length = nA) (hst : st = As9.reverse ++ .ref (ad id) :: rest) (hW8 : (rest.map fun v => v.category).sum ≤ 8) (d : decode cc pc = .ok (.invokevirtual idx, 3))
    (pre : List ExceptionTableEntry) (x : ExceptionTableEntry) (suf : List ExceptionTableEntry) (hsplit : tableOf hh = pre ++ x :: suf) (hpass : ∀ z ∈ pre, z.catchType ≠ 0 ∧ ∃ nm : String, Cond.classLink own z.catchType nm ∈ TT ∧ (E, nm) ∈ xNc) (hx9 : covers x pc = true) (h0 : x.catchType ≠ 0) (hlink : Cond.classLink own x.catchType E ∈ TT) (hcast : Cond.castable E E ∈ xNw)
    (k : ∀ (q9 : Nat) (M2 : Mm), px2 M2 → VV l D cs ad nL κ (u + 1) M2 x.handlerPc lv [.ref q9]) : VV l D cs ad nL κ u M pc lv st := by
  obtain ⟨p, e, R, s, m, args, below, meth, c, c0, s0, Q⟩ := κ
  obtain ⟨hx, hb, hml, hown, hts, hK, hD, hfr, hlo, hc0, hs0⟩ := C
  intro H locs ls hP hS hl
  subst hst
  obtain ⟨n1, n2, n3, n4, n5⟩ := (show xX _ _ _ from hN)
  refine vx_calll (vx_runV (As := As9) (rest := rest) ⟨hx, hb, hml, hown, hts⟩ (hM H.size) (cwV nA hts hG rfl hrm.1 hrm.2 hyd ⟨by rw [hfr]; exact hR.1, by rw [hlo]; exact hR.2⟩) ⟨fb_N, ?_, pr_N hK hP (hD M) (hN.now hS)⟩ rfl hn hl.1 rfl (lv_room hW8) d ⟨by omega, by omega⟩) hS (fun q _ h => fA_mono hS.1 h) (fun q h => fA_mono hS.1 h) (fun q _ h => fA_mono hS.1 h) (fun E9 ce q9 M2 t H1 locs1 ht hvm hw hB hz1 hk1 hS1 hce hcv hcl => ?_) (fun r M2 t H1 locs1 ht hvm hw hB hz1 hk1 hS1 => hw.elim)
  · have h9 := va_recv hK hP hc (show (wW cs ad M)[id]? = _ by rw [wW_get cs ad M hid, he])
    rw [hq9] at h9
    exact h9
  · obtain ⟨hE, hB⟩ := hB
    subst hE
    rw [show c0 + u + 1 = c0 + (u + 1) by omega, show s0 + 6 * u + 6 = s0 + 6 * (u + 1) by omega]
    exact vx_catch hown pre x suf (by rw [← hsplit]; exact hT) (fun z hz => by
      obtain ⟨h1, nm, h2, h3⟩ := hpass z hz
      exact Or.inr ⟨h1, nm, hts _ h2, n5 _ h3⟩) hx9 h0 (hts _ hlink) (va_tabs (xk_ot (xNw_k _ hcast)) rfl (n4 _ hcast)) hce hcv hcl (k q9 M2 hw H1 locs1 ls (by rw [← ht]; exact hB.1) hS1 hl)
end LVS
