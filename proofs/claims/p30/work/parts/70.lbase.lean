/-! ===== the law's methods: its state, the row of cliques, a call that makes one thing, the script (written by wip/p30/gen/lbase30.py) ===== -/
theorem wF_ad0 (cs : Nat → ClassId) (f : Nat → Nat) (x : Nat → Int32) (y : Nat → Int64) : ∀ k, k < 24 → wF cs f (117 + k) x y = wF cs (fun j => if j < 140 then f j else 0) (117 + k) x y := by
  have h118 : wF cs f (117 + 1) x y = wF cs (fun j => if j < 140 then f j else 0) (117 + 1) x y := congrArg (vq_row (cs 5) 2) (funext fun j => by
    by_cases hj : j < 2
    · rcases (show j = 0 ∨ j = 1 by omega) with rfl | rfl <;> rfl
    · rw [if_neg hj, if_neg hj])
  have h121 : wF cs f (117 + 4) x y = wF cs (fun j => if j < 140 then f j else 0) (117 + 4) x y := congrArg (vq_row (cs 5) 6) (funext fun j => by
    by_cases hj : j < 6
    · rcases (show j = 0 ∨ j = 1 ∨ j = 2 ∨ j = 3 ∨ j = 4 ∨ j = 5 by omega) with rfl | rfl | rfl | rfl | rfl | rfl <;> rfl
    · rw [if_neg hj, if_neg hj])
  exact (bl_s (bl_s (bl_s (bl_s (bl_s (bl_s (bl_s (bl_s (bl_s (bl_s (bl_s (bl_s (bl_s (bl_s (bl_s (bl_s (bl_s (bl_s (bl_s (bl_s (bl_s (bl_s (bl_s (bl_s bl_0 rfl) h118) rfl) rfl) h121) rfl) rfl) rfl) rfl) rfl) rfl) rfl) rfl) rfl) rfl) rfl) rfl) rfl) rfl) rfl) rfl) rfl) rfl) rfl)
/-- a thing is told by the addresses of the first 140 alone -/
theorem wF_ad {cs : Nat → ClassId} {ad ad2 : Nat → Nat} (h : ∀ j, j < 140 → ad2 j = ad j) {i : Nat} (hi : i < 141) (x : Nat → Int32) (y : Nat → Int64) : wF cs ad2 i x y = wF cs ad i x y := by
  by_cases h1 : i < 117
  · unfold wF
    rw [if_pos h1, if_pos h1]
    by_cases h2 : i % 13 = 0
    · rw [if_pos h2, if_pos h2, h (i + 1) (by omega), h (i + 2) (by omega), h (i + 3) (by omega), h (i + 12) (by omega)]
    · rw [if_neg h2, if_neg h2]
      by_cases h3 : i % 13 = 3
      · rw [if_pos h3, if_pos h3]
        refine congrArg (vq_row (cs 4) 8) (funext fun j => ?_)
        by_cases h4 : j < 8
        · rw [if_pos h4, if_pos h4, h _ (by omega)]
        · rw [if_neg h4, if_neg h4]
      · rw [if_neg h3, if_neg h3]
  · have e := wF_ad0 cs ad x y (i - 117) (by omega)
    have e2 := wF_ad0 cs ad2 x y (i - 117) (by omega)
    rw [show 117 + (i - 117) = i by omega] at e e2
    rw [e, e2]
    exact congrArg (fun f => wF cs f i x y) (funext fun j => by
      by_cases hj : j < 140
      · rw [if_pos hj, if_pos hj, h j hj]
      · rw [if_neg hj, if_neg hj])
def adW (ad : Nat → Nat) (q : Nat) : Nat → Nat := fun i => if i = 1000 then 1 else if i = 140 then q else ad i
theorem adW_lo {ad : Nat → Nat} {q i : Nat} (h : i < 140) : adW ad q i = ad i := by unfold adW; rw [if_neg (by omega), if_neg (by omega)]
theorem wW_cg {cs : Nat → ClassId} {ad : Nat → Nat} {M M2 : Mm} (h : ∀ i, i < nT ad → M2.1 i = M.1 i ∧ M2.2 i = M.2 i) : wW cs ad M2 = wW cs ad M := by
  unfold wW
  apply List.map_congr_left
  intro i hi
  have hi := List.mem_range.mp hi
  rw [(h i hi).1, (h i hi).2]
theorem wW_W {cs : Nat → ClassId} {ad : Nat → Nat} {q : Nat} {M : Mm} (h0 : ad 1000 = 0) : wW cs (adW ad q) M = wW cs ad M ++ [(q, .inl (cs 0, 4, .inl (M.1 140)))] := by
  show (List.range (140 + 1)).map _ = (List.range (140 + ad 1000)).map _ ++ _
  rw [h0, List.range_succ, List.map_append]
  refine congrArg (fun l => l ++ _) (List.map_congr_left (fun i hi => ?_))
  have hi := List.mem_range.mp hi
  rw [adW_lo hi, wF_ad (fun j hj => adW_lo hj) (by omega)]
theorem fA_W {ad : Nat → Nat} {q sz : Nat} (h0 : ad 1000 = 0) (hq : sz ≤ q) (a : Nat) : fA (adW ad q) sz a ↔ fA ad sz a := by
  constructor
  · rintro (⟨i, hi, rfl⟩ | h)
    · have hi : i < 141 := hi
      by_cases e : i = 140
      · subst e; exact Or.inr hq
      · exact Or.inl ⟨i, by unfold nT; omega, adW_lo (by omega)⟩
    · exact Or.inr h
  · rintro (⟨i, hi, rfl⟩ | h)
    · have hi : i < 140 + ad 1000 := hi
      rw [h0] at hi
      exact Or.inl ⟨i, (show i < 141 by omega), (adW_lo (by omega)).symm⟩
    · exact Or.inr h
/-- the new row lies behind all that was there -/
def QW : Kx → Nat → Prop
  | (_, _, _, s, _), q => s.heap.size ≤ q
section LB
variable {l : Launch} {D : va_G} {cs : Nat → ClassId} {ad : Nat → Nat} {nL : Nat} {κ : Kx} {u : Nat} {M : Mm} {pc : Nat} {lv : List (Nat × Value)} {st : List Value} {cc : ByteArray} {own : String} {fr lo U : Nat}
/-- the row of four that cliques makes -/
theorem r_newaW (C : CX D cs ad cc nL own fr lo U κ) (hN : CN ad κ) (h0 : ad 1000 = 0) (hu : u + 1 ≤ U) (d : decode cc pc = .ok (.newarray .int, 2)) (k : ∀ q, CX D cs (adW ad q) cc nL own fr lo U κ → CN (adW ad q) κ → QW κ q → VV l D cs (adW ad q) nL κ (u + 1) (mA M 140 (fun _ => 0)) (pc + 2) lv (.ref q :: st)) : VV l D cs ad nL κ u M pc lv (.int (nI 4) :: st) := by
  obtain ⟨p, e, R, s, m, args, below, meth, c, c0, s0, Q⟩ := κ
  obtain ⟨hx, hb, hml, hown, hts, hK, hD, hfr, hlo, hc0, hs0⟩ := C
  intro H locs ls hP hS hl
  refine va_newa hx hb (atype := .int) (hts _ ac_int) (ty := .int) rfl hK hP (hD M) hS (fun q hq => Or.inr hq) (a0 := (4, .inl (fun _ => 0))) (N' := 4) (fun _ => rfl) (by decide) (by decide) (by decide) (by omega) (by omega) d (fun q cB H1 hK1 hP1 hD1 hS1 => ?_)
  have e1 : cB = cs 0 := by
    have g1 := (hK1.2 ((tyC cs).length) (cB, .int) (by rw [List.getElem?_append_right (Nat.le_refl _), Nat.sub_self]; rfl)).2
    have g2 := (hK.2 0 (cs 0, .int) rfl).2
    exact Option.some.inj (Eq.trans (Eq.symm g1) g2)
  subst e1
  have eW : wW cs (adW ad q) (mA M 140 (fun _ => 0)) = wW cs ad M ++ [(q, .inl (cs 0, 4, .inl (fun _ => 0)))] := by
    rw [wW_W h0, wW_cg (M := M) (fun i hi => ⟨mA_ne _ (by unfold nT at hi; omega), rfl⟩), mA_eq]
  rw [← eW] at hP1 hD1
  have hq : s.heap.size ≤ q := by
    have h140 := wW_gx cs (adW ad q) (mA M 140 (fun _ => 0)) (i := 140) (show 140 < 141 by decide)
    rcases hD1.2 140 _ h140 with ⟨i, hi, e⟩ | h
    · have hi2 : i < 140 := by unfold nT at hi; omega
      have := hD1.1 140 i _ _ h140 (wW_gx cs (adW ad q) (mA M 140 (fun _ => 0)) (i := i) (show i < 141 by omega)) (e.trans (adW_lo hi2).symm)
      omega
    · exact h
  refine W.widen (k := c0 + (u + 1)) (n := s0 + 6 * (u + 1)) (by omega) (by omega) ?_
  have hD2 : va_D (fA (adW ad q) s.heap.size) (wW cs (adW ad q) (mA M 140 (fun _ => 0))) := ⟨hD1.1, fun k z hz => (fA_W h0 hq _).mpr (hD1.2 k z hz)⟩
  exact k q ⟨hx, hb, hml, hown, hts, hK, fun M' => wD_any (fun i hi => fA_in hi) hD2 M', hfr, hlo, hc0, hs0⟩ hN hq H1 locs ls hP1 ⟨hS1.1, fun a h1 h2 => hS1.2.1 a h1 (fun z => h2 ((fA_W h0 hq a).mpr z)), fun x hx => (fA_W h0 hq _).mpr (hS1.2.2 x hx)⟩ hl
/-- back among the things without it -/
theorem r_backW (h0 : ad 1000 = 0) {q : Nat} (hq : QW κ q) (k : VV l D cs ad nL κ u M pc lv st) : VV l D cs (adW ad q) nL κ u M pc lv st := by
  obtain ⟨p, e, R, s, m, args, below, meth, c, c0, s0, Q⟩ := κ
  intro H locs ls hP hS hl
  rw [wW_W h0] at hP
  exact k H locs ls (fun i x hx => hP i x (by rw [List.getElem?_append_left (List.getElem?_eq_some_iff.mp hx).1]; exact hx)) ⟨hS.1, fun a h1 h2 => hS.2.1 a h1 (fun z => h2 ((fA_W h0 hq a).mp z)), fun x hx => (fA_W h0 hq _).mp (hS.2.2 x hx)⟩ hl
theorem r_iaW (C : CX D cs ad cc nL own fr lo U κ) (h1 : ad 1000 = 1) {a : Nat} (ha : a < 4) (d : decode cc pc = .ok (.iaload, 1)) (k : VV l D cs ad nL κ u M (pc + 1) lv (.int (M.1 140 a) :: st)) : VV l D cs ad nL κ u M pc lv (.int (nI a) :: .ref (ad 140) :: st) := by
  obtain ⟨p, e, R, s, m, args, below, meth, c, c0, s0, Q⟩ := κ
  obtain ⟨hx, hb, hml, hown, hts, hK, hD, hfr, hlo, hc0, hs0⟩ := C
  intro H locs ls hP hS hl
  refine va_iald hx hb hK hP 140 0 (wW_gx cs ad M (by unfold nT; omega)) rfl (vp_in_nI ha (by decide)) d ?_
  rw [nI_clamp (by omega)]
  exact (k H locs ls hP hS hl)
theorem r_isW (C : CX D cs ad cc nL own fr lo U κ) (h1 : ad 1000 = 1) {a : Nat} {x : Int32} (ha : a < 4) (d : decode cc pc = .ok (.iastore, 1)) (k : VV l D cs ad nL κ u (mI M 140 a x) (pc + 1) lv st) : VV l D cs ad nL κ u M pc lv (.int x :: .int (nI a) :: .ref (ad 140) :: st) := by
  obtain ⟨p, e, R, s, m, args, below, meth, c, c0, s0, Q⟩ := κ
  obtain ⟨hx, hb, hml, hown, hts, hK, hD, hfr, hlo, hc0, hs0⟩ := C
  intro H locs ls hP hS hl
  have h9 : 140 < nT ad := by unfold nT; omega
  refine va_iast hx hb hK hP (hD M) hS 140 0 (wW_gx cs ad M h9) rfl (vp_in_nI ha (by decide)) d (fun H1 locs1 hP1 hD1 hS1 => ?_)
  rw [nI_clamp (by omega), wW_sx cs ad (M := M) (M' := mI M 140 a x) h9 (fun j hj => ⟨mI_ne M hj, rfl⟩) (by rw [mI_eq]; rfl)] at hP1
  exact k H1 locs1 ls hP1 hS1 hl
/-- a method that may make one thing -/
theorem su_Z {y : MethodName} {b : ByteArray} {n : Nat} {As : List Value} {post : Int32 → Mm → Prop} (hy : plainName y.cls = true) (hAs : (lg_sl As).length ≤ n) (body : ∀ κ, CX D cs ad b n y.cls fr lo 1 κ → CN ad κ → eZ l D cs ad n b 1 κ post → VV l D cs ad n κ 0 M 0 (lv_args 0 As) []) (sz : Nat) : Met l y (.code y b n (some .boolean) :: TT) { frames := fr, cells := 1, slots := 6, locals := lo } (va_Pc As (fun U9 => U9.heap.size = sz ∧ wB D cs ad (fA ad sz) M U9 ∧ xX (fA ad sz) U9 U9.heap)) (va_Qi post (wB D cs ad (fA ad sz)) (fA ad sz)) 1 6 (fA ad sz) := by
  refine Met.ofW (cc := b) (maxL := n) (ret := (some .boolean)) hy rfl ?_
  intro p e s m args below meth c s₁ B hml hv
  obtain ⟨rfl, hsz, ⟨hP, hK, hD0⟩, hX⟩ := hv
  have hx := B.exec
  have hb := B.bytes
  have hr := B.returns
  have hts0 := atoms_spec (ws := .code y b n (some .boolean) :: TT) B.pre
  have hts : ∀ w ∈ TT, w.before As.toArray s = true := fun w hw => hts0 w (List.mem_cons_of_mem _ hw)
  have hown := findClass_of_methodNamed B.named
  have hlocks := B.notSynchronized
  subst hsz
  have hD : ∀ M, va_D (fA ad s.heap.size) (wW cs ad M) := fun M' => wD_any (fun i hi => fA_in hi) hD0 M'
  have hl := lv_entry As (n := n) hAs
  rw [lg_entry_eq]
  generalize (lg_sl As ++ List.replicate (n - (lg_sl As).length) Slot.unset).toArray = ls at hl ⊢
  refine body (p, e, _, s, m, As.toArray, below, meth, c, 0, 0, _) ⟨hx, hb, hml, hown, hts, hK, hD, rfl, rfl, Nat.le_refl _, Nat.le_refl _⟩ hX ?_ s.heap [] ls hP va_S.rf hl
  intro u M2 pc lv v hu d hnar hpost
  intro H locs ls hP hS hl
  refine W.widen (k := 1) (n := 6) (by omega) (by omega) ?_
  exact W.zret hx hb hr hnar (fun t ht hW => ⟨⟨v, M2, rfl, hpost, by rw [ht]; exact hP, va_K.moved hW.alike hK, hD M2⟩, hS.F ht⟩) hS.2.2 d hlocks
theorem r_ucallS_i (C : CX D cs ad cc nL own fr lo U κ) (hN : CN ad κ) (hu : u + 1 ≤ U) {y : MethodName} {b : ByteArray} {n nA idx : Nat} {rt : Option FieldType} {rm : Room} {rest : List Value} {post : Int32 → Mm → Prop} (As9 : List Value) (hM : ∀ sz, Met l y (.code y b n rt :: TT) rm (va_Pc (As9) (fun U9 => U9.heap.size = sz ∧ wB D cs ad (fA ad sz) M U9 ∧ xX (fA ad sz) U9 U9.heap)) (va_Qi post (wB D cs ad (fA ad sz)) (fA ad sz)) 1 6 (fA ad sz)) (hG : GoodIn TT (wsS own idx y (.code y b n rt :: TT))) (hrm : rm.cells = 1 ∧ rm.slots = 6) (hyd : y.cls = own ∧ y.cls ≠ "java/lang/invoke/MethodHandle" ∧ y.cls ≠ "java/lang/invoke/VarHandle" ∧ (parseMethodDescriptor y.desc).map (fun d => d.parameters.length) = some nA) (hR : rm.frames + 1 ≤ fr ∧ 8 + (n + 11) + rm.locals ≤ lo) (hn : As9.length = nA) (hst : st = As9.reverse ++ rest) (hW8 : (rest.map fun v => v.category).sum ≤ 8) (d : decode cc pc = .ok (.invokestatic idx, 3)) (k : ∀ (r : Int32) (M2 : Mm), post r M2 → VV l D cs ad nL κ (u + 1) M2 (pc + 3) lv (.int r :: rest)) : VV l D cs ad nL κ u M pc lv st := by
  obtain ⟨p, e, R, s, m, args, below, meth, c, c0, s0, Q⟩ := κ
  obtain ⟨hx, hb, hml, hown, hts, hK, hD, hfr, hlo, hc0, hs0⟩ := C
  intro H locs ls hP hS hl
  subst hst
  refine va_calli (va_runS (As := As9) (rest := rest) ⟨hx, hb, hml, hown, hts⟩ (hM H.size) (cwS nA hts hG rfl hrm.1 hrm.2 hyd ⟨by rw [hfr]; exact hR.1, by rw [hlo]; exact hR.2⟩) ⟨fb_N, pr_N hK hP (hD M) (hN.now hS)⟩ rfl hn hl.1 rfl (lv_room hW8) d ⟨by omega, by omega⟩) hS (fun q _ h => fA_mono hS.1 h) (fun q h => fA_mono hS.1 h) (fun r M2 t H1 locs1 ht hvm hw hB hz1 hk1 hS1 => ?_)
  rw [show c0 + u + 1 = c0 + (u + 1) by omega, show s0 + 6 * u + 6 = s0 + 6 * (u + 1) by omega]
  exact k r M2 hw H1 locs1 ls (by rw [← ht]; exact hB.1) hS1 hl
/-- the script's start -/
def SXP (D : va_G) (cs : Nat → ClassId) (ad : Nat → Nat) (M : Mm) (b9 L : Nat) (xs : Nat → Int32) (sz : Nat) (U9 : State) : Prop := U9.heap.size = sz ∧ wB D cs ad (fA ad sz) M U9 ∧ va_X b9 L xs U9 U9.heap ∧ b9 < U9.heap.size ∧ ¬ fA ad U9.heap.size b9
theorem ss_I {b9 L : Nat} {xs : Nat → Int32} {y : MethodName} {b : ByteArray} {n : Nat} {As : List Value} {post : Int32 → Mm → Prop} (hy : plainName y.cls = true) (hAs : (lg_sl As).length ≤ n) (body : ∀ κ, CX D cs ad b n y.cls fr lo 0 κ → CSX ad b9 L xs κ → eI l D cs ad n b 0 κ post → VV l D cs ad n κ 0 M 0 (lv_args 0 As) []) (sz : Nat) : Met l y (.code y b n (some .int) :: TT) { frames := fr, cells := 0, slots := 0, locals := lo } (va_Pc As (SXP D cs ad M b9 L xs sz)) (va_Qi post (wB D cs ad (fA ad sz)) (fA ad sz)) 0 0 (fA ad sz) := by
  refine Met.ofW (cc := b) (maxL := n) (ret := (some .int)) hy rfl ?_
  intro p e s m args below meth c s₁ B hml hv
  obtain ⟨rfl, hsz, ⟨hP, hK, hD0⟩, hX⟩ := hv
  have hx := B.exec
  have hb := B.bytes
  have hr := B.returns
  have hts0 := atoms_spec (ws := .code y b n (some .int) :: TT) B.pre
  have hts : ∀ w ∈ TT, w.before As.toArray s = true := fun w hw => hts0 w (List.mem_cons_of_mem _ hw)
  have hown := findClass_of_methodNamed B.named
  have hlocks := B.notSynchronized
  subst hsz
  have hD : ∀ M, va_D (fA ad s.heap.size) (wW cs ad M) := fun M' => wD_any (fun i hi => fA_in hi) hD0 M'
  have hl := lv_entry As (n := n) hAs
  rw [lg_entry_eq]
  generalize (lg_sl As ++ List.replicate (n - (lg_sl As).length) Slot.unset).toArray = ls at hl ⊢
  refine body (p, e, _, s, m, As.toArray, below, meth, c, 0, 0, _) ⟨hx, hb, hml, hown, hts, hK, hD, rfl, rfl, Nat.le_refl _, Nat.le_refl _⟩ hX ?_ s.heap [] ls hP va_S.rf hl
  intro u M2 pc lv v hu d hpost
  obtain rfl : u = 0 := by omega
  intro H locs ls hP hS hl
  exact W.iret hx hb hr (fun t ht hW => ⟨⟨v, M2, rfl, hpost, by rw [ht]; exact hP, va_K.moved hW.alike hK, hD M2⟩, hS.F ht⟩) hS.2.2 d hlocks
theorem fb_S {b9 L : Nat} {xs : Nat → Int32} {As : List Value} {sz : Nat} : FrameBlind (va_Pc As (SXP D cs ad M b9 L xs sz)) := fun a U g mk q => by
  obtain ⟨q0, q1, ⟨qP, qK, qD⟩, qX, qb, qf⟩ := q
  exact ⟨q0, q1, ⟨qP, va_K.moved (u := U) (U := U.calling g mk a) (Vm.Alike.refl U.vm) qK, qD⟩, va_X.moved (u := U) (U := U.calling g mk a) (Vm.Alike.refl U.vm) qX, qb, qf⟩
theorem r_scallS_i {b9 L : Nat} {xs : Nat → Int32} (C : CX D cs ad cc nL own fr lo U κ) (hSc : CSX ad b9 L xs κ) (hu : u ≤ U) {y : MethodName} {b : ByteArray} {n nA idx : Nat} {rt : Option FieldType} {rm : Room} {rest : List Value} {post : Int32 → Mm → Prop} (As9 : List Value) (hM : ∀ sz, Met l y (.code y b n rt :: TT) rm (va_Pc (As9) (SXP D cs ad M b9 L xs sz)) (va_Qi post (wB D cs ad (fA ad sz)) (fA ad sz)) 0 0 (fA ad sz)) (hG : GoodIn TT (wsS own idx y (.code y b n rt :: TT))) (hrm : rm.cells = 0 ∧ rm.slots = 0) (hyd : y.cls = own ∧ y.cls ≠ "java/lang/invoke/MethodHandle" ∧ y.cls ≠ "java/lang/invoke/VarHandle" ∧ (parseMethodDescriptor y.desc).map (fun d => d.parameters.length) = some nA) (hR : rm.frames + 1 ≤ fr ∧ 8 + (n + 11) + rm.locals ≤ lo) (hn : As9.length = nA) (hst : st = As9.reverse ++ rest) (hW8 : (rest.map fun v => v.category).sum ≤ 8) (d : decode cc pc = .ok (.invokestatic idx, 3)) (k : ∀ (r : Int32) (M2 : Mm), post r M2 → VV l D cs ad nL κ u M2 (pc + 3) lv (.int r :: rest)) : VV l D cs ad nL κ u M pc lv st := by
  obtain ⟨p, e, R, s, m, args, below, meth, c, c0, s0, Q⟩ := κ
  obtain ⟨hx, hb, hml, hown, hts, hK, hD, hfr, hlo, hc0, hs0⟩ := C
  obtain ⟨g1, g2, g3⟩ := hSc
  intro H locs ls hP hS hl
  subst hst
  refine va_calli (va_runS (As := As9) (rest := rest) ⟨hx, hb, hml, hown, hts⟩ (hM H.size) (cwS nA hts hG rfl hrm.1 hrm.2 hyd ⟨by rw [hfr]; exact hR.1, by rw [hlo]; exact hR.2⟩) ⟨fb_S, fun U9 hU hW => ⟨rfl, by rw [hU], ⟨by rw [hU]; exact hP, va_K.moved hW.alike hK, wD_any (fun i hi => fA_in hi) (hD M) M⟩, by rw [hU]; exact va_X.moved hW.alike (g1.kept (hS.2.1 b9 g2 g3)), by rw [hU]; exact Nat.lt_of_lt_of_le g2 hS.1, by rw [hU]; exact fun h => g3 (fA_mono hS.1 h)⟩⟩ rfl hn hl.1 rfl (lv_room hW8) d ⟨by omega, by omega⟩) hS (fun q _ h => fA_mono hS.1 h) (fun q h => fA_mono hS.1 h) (fun r M2 t H1 locs1 ht hvm hw hB hz1 hk1 hS1 => ?_)
  exact k r M2 hw H1 locs1 ls (by rw [← ht]; exact hB.1) hS1 hl
end LB
set_option maxRecDepth 100000 in
/-- what the script holds, or a number made of the place: any number -/
theorem c_L_cell (l : Launch) (D : va_G) (cs : Nat → ClassId) (ad : Nat → Nat) (M : Mm) {b9 L : Nat} {xs : Nat → Int32} (hL : L ≤ 2048) (k : Nat) (hk : k < 2048) : ∀ sz : Nat, Met l yL_cell (.code yL_cell cL_cell 2 (some .int) :: TT) { frames := 0, cells := 0, slots := 0, locals := 0 } (va_Pc [.ref b9, .int (nI k)] (SXP D cs ad M b9 L xs sz)) (va_Qi (fun _ M2 => M2 = M) (wB D cs ad (fA ad sz)) (fA ad sz)) 0 0 (fA ad sz) := by
  refine ss_I (by decide) (Nat.le_of_ble_eq_true rfl) (fun κ C hX E => ?_)
  refine r_lv (lv2 := [(0, .ref b9), (1, .int (nI k))]) [0, 1] rfl ?_
  refine r_iload_n C dL_cell_0 rfl 1 rfl ?_
  refine r_aload_n C dL_cell_1 rfl 0 rfl ?_
  refine r_slen C hX dL_cell_2 ?_
  refine r_icmpN_ge C 12 dL_cell_3 (by decide) (by omega) (by omega) (fun h => ?_) (fun h => ?_)
  · refine r_ldc C 736160213 k_L_7 dL_cell_12 ?_
    refine r_iload_n C dL_cell_14 rfl 1 rfl ?_
    refine r_sipush C (nI 283) dL_cell_15 (by decide) ?_
    refine r_iadd C dL_cell_18 ?_
    refine r_imul C dL_cell_19 ?_
    exact E 0 _ _ _ _ (Nat.le_refl 0) dL_cell_20 rfl
  · refine r_aload_n C dL_cell_6 rfl 0 rfl ?_
    refine r_iload_n C dL_cell_7 rfl 1 rfl ?_
    refine r_sld C hX (by omega) hL dL_cell_8 ?_
    refine r_goto C 20 dL_cell_9 (by decide) ?_
    exact E 0 _ _ _ _ (Nat.le_refl 0) dL_cell_20 rfl
