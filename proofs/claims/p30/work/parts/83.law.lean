/-! THE CLAIM OUT OF ONE WALK OF THE LAW'S BODY. Your part is whole_start (and what it stands on); all else here is the same for every law, but numbers. -/
def R_law : String := "CliqueLabelsLaw"
def lw_P (b : Addr) (xs : List Int32) (args : Array Value) (s : State) : Prop := args = #[.ref b] ∧ s.IntsAt b xs ∧ xs.length ≤ 260 ∧ (Jvm.Cond.and given_1 narrow_1).before args s = true
/-- what a walk over the start with the record d0 says of its end, said of the start itself -/
theorem lw_closed {s t : State} {o : Outcome} {d0 : Drawn} {L : List Loc} {k n : Nat} (hd0 : s.drawn.sameBut d0 lw_cs) (hv : ∃ v, o = .returned v) (hW : (s.setDrawn d0).WarmedH t.vm) (hs : (s.setDrawn d0).sameButNew ({ t with vm := s.vm } : State) L k n) : State.butDraws s t lw_cs (fun t1 => Framed s o t1 L k n) := by
  have h2 : t.drawn = d0 := congrArg State.drawn hs.1
  refine ⟨⟨hv, hW, State.sameButNew.setDrawn hs s.drawn⟩, ?_, by decide⟩
  rw [h2]
  exact hd0
def lw_Q (_ : Array Value) (s : State) (o : Outcome) (t : State) : Prop := o = .returned (some (.int 1)) ∧ State.butDraws s t lw_cs (fun t1 => Framed s o t1 [] 661689 7116401)
def lw_Z (below : List Frame) (a : Array Value) (s : State) : State → Prop := fun t => ∃ o, t.status = .running ∧ Ended t below o ∧ lw_Q a s o t
/-- the law's own end, with 1 on the stack, nothing written that was there before, its room as the claim has it; d0: the record of draws at this point (at the entry s.drawn: begin with 'refine W.base ?_' and 'have hd0 := Drawn.sameBut.refl s.drawn lw_cs') -/
theorem lw_ret {p : Program} {l : Launch} {e : Env} {s : State} {m : MethodId} {below : List Frame} {meth : Method} {c : Code} {b : Nat} {d0 : Drawn} (hd0 : s.drawn.sameBut d0 lw_cs) (hx : p.tables.exec = Jvm.exec) (hb : c.code = code) (hr : meth.sig.returnType = ret) (hlocks : meth.locks = false) {pc : Nat} {H : Heap} {ls : Array Slot} (hdg : decode code pc = .ok (.ireturn, 1)) : W p l e room_1 (s.setDrawn d0) m #[Value.ref b] below meth c H [] 661689 7116401 (lw_Z below #[Value.ref b] s) (F0 m pc ls [.int 1]) := by
  intro T hT X
  obtain ⟨fs, hret, hrun, hended, hW, hframe⟩ := X.leave (v := some (.int 1)) (hlocks := hlocks) (fun h => by rw [hr] at h; cases h)
  have hmeth' : T.vm.method? m = some meth := X.method'
  refine ⟨T.setFrames fs, ?_, .returned (some (.int 1)), hrun, hended, rfl, lw_closed hd0 ⟨_, rfl⟩ hW hframe⟩
  jvm_step X.here [X.here.top, hx, hb, hdg, hmeth', hr, ret, narrow_b1]
  (try refine ⟨rfl, ?_⟩); (try refine ⟨rfl, ?_⟩)
  first | (intro acts; rw [hret _ acts rfl rfl rfl]) | rw [hret _ _ rfl rfl rfl]
  exact Steps.refl _
/-- what holds at the law's entry: the machine, the code, the tables' words (any of lw_tbl by 'hts w (by decide +kernel)'), the script of L ints xs at the cell b, what the Statement gives of the start (any of its parts by flat_of_before) -/
def lw_At (p : Program) (s : State) (m : MethodId) (meth : Method) (c : Code) (b L : Nat) (xs : Nat → Int32) : Prop :=
  p.tables.exec = Jvm.exec ∧ c.code = code ∧ meth.sig.returnType = ret ∧ c.maxLocals = 8 ∧ s.vm.findClass R_law = some m.cls ∧ (∀ w ∈ lw_tbl, w.before #[Value.ref b] s = true) ∧ va_X b L xs s s.heap ∧ b < s.heap.size ∧ meth.locks = false ∧ (Jvm.Cond.and given_1 narrow_1).before #[Value.ref b] s = true
-- ===== YOUR PART BEGINS =====
theorem uN_n {α : Type} {f : Nat → α} {k i : Nat} {v : α} (h : i ≠ k) : uN f k v i = f i := if_neg h
theorem uN_e {α : Type} {f : Nat → α} {k i : Nat} {v : α} (h : i = k) : uN f k v i = v := if_pos h
theorem cN_l {α : Type} {f g : Nat → α} {n i : Nat} (h : i < n) : cN f n g i = f i := if_pos h
theorem cN_r {α : Type} {f g : Nat → α} {n i : Nat} (h : n ≤ i) : cN f n g i = g (i - n) := if_neg (Nat.not_lt.mpr h)
theorem e_astore {l : Launch} {D : va_G} {cs : Nat → ClassId} {ad : Nat → Nat} {F : Nat → va_E} {n9 : Nat} {nL : Nat} {A : Nat → Prop} {κ : Kx} {cl sl : Nat} {pc : Nat} {lv : List (Nat × Value)} {st : List Value} {cc : ByteArray} {own : String} {fr lo rc rs : Nat} (C : CE D cs A cc nL own fr lo rc rs κ) {i : Nat} {x : Nat} (lv2 : List (Nat × Value)) (d : decode cc pc = .ok (.astore i, 2)) (hn : i < nL) (h2 : (i, Value.ref x) :: lv.filter (fun q => !(q.1 == i) && !(q.1 + 1 == i && q.2.category == 2)) = lv2) (k : EV l D nL A κ cl sl ad F n9 (pc + 2) lv2 st) : EV l D nL A κ cl sl ad F n9 pc lv (.ref x :: st) := by
  obtain ⟨p, e, R, s, m, args, below, meth, c, c0, s0, Q⟩ := κ
  obtain ⟨hx, hb, hml, hown, hts, hK, hfr, hlo, hrc, hrs, hAO, hAA, hNw, hA⟩ := C
  intro H locs ls hP hD hS hl
  exact lv_astore hx hb d hl hn h2 (fun ls hl => k H locs ls hP hD hS hl)
set_option maxRecDepth 100000 in
set_option maxHeartbeats 4000000 in
/-- YOUR PART: from the entry, for every script of at most 260 ints, the law comes to its end with true ('hflags': the launch's flags, for a law that throws: no stack traces) -/
theorem whole_start {p : Program} {e : Env} {s : State} {m : MethodId} {below : List Frame} {meth : Method} {c : Code} (l : Launch) (hflags : l.flags = flags0) {b L : Nat} {xs : Nat → Int32} (hL : L ≤ 260) (C0 : lw_At p s m meth c b L xs) : W p l e room_1 s m #[Value.ref b] below meth c s.heap [] 0 0 (lw_Z below #[Value.ref b] s) (entryFrame m ([Value.ref b] : List Value).toArray 8) := by
  obtain ⟨hx, hb, hr, hml, hown, hts, hX, hbl, hlocks, hgv⟩ := C0
  have htt : ∀ w ∈ TT, w.before #[Value.ref b] s = true := fun w hw => hts w (List.mem_filter.mp hw).1
  have hO : (Cond.arrayOver (.object RX4)).before #[Value.ref b] s = true := hts _ (by decide +kernel)
  have hAA : (Cond.arrayOver (.array .int)).before #[Value.ref b] s = true := hts _ (by decide +kernel)
  obtain ⟨D, cs, hK⟩ := k_start htt hO hAA
  have hl := lv_entry ([.ref b]) (n := 8) (Nat.le_of_ble_eq_true rfl)
  rw [lg_entry_eq]
  generalize (lg_sl ([.ref b]) ++ List.replicate (8 - (lg_sl ([.ref b])).length) Slot.unset).toArray = ls at hl ⊢
  have C : CE D cs (fun q => s.heap.size ≤ q) cL_law 8 RL 2048 84000 661689 7116401 (p, e, room_1, s, m, #[Value.ref b], below, meth, c, 0, 0, lw_Z below #[Value.ref b] s) := ⟨hx, hb, hml, hown, htt, hK, rfl, rfl, rfl, rfl, va_AO.of hO, va_AOA.of hAA, n_start hts, fun _ h => h⟩
  have E0 : EV l D 8 (fun q => s.heap.size ≤ q) (p, e, room_1, s, m, #[Value.ref b], below, meth, c, 0, 0, lw_Z below #[Value.ref b] s) 0 0 (fun _ => 0) (fun _ => T0 cs (fun _ => 0) 0) 0 0 [(0, .ref b)] [] := by
    refine e_new C (ci := 7) (fs := [.null, .null, .null, .null, .null, .null, .null, .null, .null, .int 0]) inw_X7 tyX7 tyX7_ok cl_L_23 ib_X7 in_X7 rfl (fun j hj => by rcases (show j = 0 ∨ j = 1 ∨ j = 2 ∨ j = 3 ∨ j = 4 ∨ j = 5 ∨ j = 6 ∨ j = 7 ∨ j = 8 ∨ j = 9 by omega) with rfl | rfl | rfl | rfl | rfl | rfl | rfl | rfl | rfl | rfl <;> rfl) (by decide) (by decide) dL_law_0 (fun q7 => ?_)
    refine e_dup C dL_law_3 rfl ?_
    refine e_callI C (F2 := T7 cs) (n2 := 135) (fun b9 sz9 => i_X7 l D cs b9 sz9) co_X7_init in_X7 ml_L_100 im_X7_init rfl ⟨rfl, rfl⟩ ⟨by decide, by decide, by decide⟩ ⟨Nat.le_of_ble_eq_true rfl, Nat.le_of_ble_eq_true rfl⟩ rfl rfl (Nat.le_of_ble_eq_true rfl) (by decide) (by decide) dL_law_4 (fun u7 hu7 => ?_)
    subst hu7
    refine e_astore_n C [(1, .ref (u7 0)), (0, .ref b)] dL_law_7 rfl (by decide) rfl ?_
    refine e_iconst C (nI 3) dL_law_8 (by decide) ?_
    refine e_newa C (ty := .int) ac_int rfl 0 rfl (fun _ h => h) (N := 3) (a0 := (3, .inl (fun _ => 0))) (fun _ => rfl) (by decide) (by decide) (by decide) (by decide) (by decide) dL_law_9 (fun q0 => ?_)
    refine e_astore_n C [(2, .ref q0), (1, .ref (u7 0)), (0, .ref b)] dL_law_11 rfl (by decide) rfl ?_
    refine e_iconst C (nI 4) dL_law_12 (by decide) ?_
    refine e_newa C (ty := .int) ac_int rfl 0 rfl (fun _ h => h) (N := 4) (a0 := (4, .inl (fun _ => 0))) (fun _ => rfl) (by decide) (by decide) (by decide) (by decide) (by decide) dL_law_13 (fun q1 => ?_)
    refine e_astore_n C [(3, .ref q1), (2, .ref q0), (1, .ref (u7 0)), (0, .ref b)] dL_law_15 rfl (by decide) rfl ?_
    refine e_bipush C (nI 20) dL_law_16 (by decide) ?_
    refine e_newa C (ty := .int) ac_int rfl 0 rfl (fun _ h => h) (N := 20) (a0 := (20, .inl (fun _ => 0))) (fun _ => rfl) (by decide) (by decide) (by decide) (by decide) (by decide) dL_law_18 (fun q2 => ?_)
    refine e_astore C [(4, .ref q2), (3, .ref q1), (2, .ref q0), (1, .ref (u7 0)), (0, .ref b)] dL_law_20 (by decide) rfl ?_
    refine e_bipush C (nI 20) dL_law_22 (by decide) ?_
    refine e_newa C (ty := .int) ac_int rfl 0 rfl (fun _ h => h) (N := 20) (a0 := (20, .inl (fun _ => 0))) (fun _ => rfl) (by decide) (by decide) (by decide) (by decide) (by decide) dL_law_24 (fun q3 => ?_)
    refine e_astore C [(5, .ref q3), (4, .ref q2), (3, .ref q1), (2, .ref q0), (1, .ref (u7 0)), (0, .ref b)] dL_law_26 (by decide) rfl ?_
    refine e_iconst C (nI 4) dL_law_28 (by decide) ?_
    refine e_newa C (ty := .int) ac_int rfl 0 rfl (fun _ h => h) (N := 4) (a0 := (4, .inl (fun _ => 0))) (fun _ => rfl) (by decide) (by decide) (by decide) (by decide) (by decide) dL_law_29 (fun q4 => ?_)
    refine e_astore C [(6, .ref q4), (5, .ref q3), (4, .ref q2), (3, .ref q1), (2, .ref q0), (1, .ref (u7 0)), (0, .ref b)] dL_law_31 (by decide) rfl ?_
    intro H locs ls hP hD hS hl
    rw [aW_cg (n := 0 + 135 + 1 + 1 + 1 + 1 + 1) (ad2 := adA u7 q0 q1 q2 q3 q4) (G := FA cs u7) (fun i hi => ?_)] at hP hD
    · obtain ⟨hP1, hD1⟩ := W0_of hP hD
      have had : ∀ i, i < 140 → s.heap.size ≤ adF u7 q0 q1 q2 q3 q4 i := fun i hi => hD1.2 i _ (wW_get cs _ M0 hi)
      have hfr : ∀ a : Nat, a < s.heap.size → ¬ fA (adF u7 q0 q1 q2 q3 q4) s.heap.size a := fun a ha h => by
        rcases h with ⟨i, hi, h⟩ | h
        · have h9 := had i hi
          omega
        · omega
      have CXX : CX D cs (adF u7 q0 q1 q2 q3 q4) cL_law 8 RL 2048 84000 40 (p, e, room_1, s, m, #[Value.ref b], below, meth, c, 0 + 1 + 134 + 1 + 1 + 1 + 1 + 1, 0 + 10 + 968 + 3 + 4 + 20 + 20 + 4, lw_Z below #[Value.ref b] s) := ⟨hx, hb, hml, hown, htt, hK, fun M' => wD_any (fun i hi => fA_in hi) hD1 M', rfl, rfl, by decide, by decide⟩
      refine LW_start l D cs (adF u7 q0 q1 q2 q3 q4) (b9 := b) (L := L) (xs := xs) CXX (x_start (A := fun _ => True) hts) ⟨hX, hbl, hfr b hbl⟩ (by omega) rfl (fun u M lv hu => ?_) H locs ls hP1 ⟨hS.1, fun q h1 h2 => hS.2.1 q h1 (fun z => h2 (Or.inr z)), fun x hx => Or.inr (hS.2.2 x hx)⟩ (lv_sub hl [6, 5, 4, 3, 2, 1, 0] rfl)
      intro H locs ls hP hS hl
      refine va_forget (fun x hx => ?_) ?_
      · rcases hS.2.2 x hx with ⟨i, hi, h⟩ | h
        · rw [h]; exact had i hi
        · exact h
      · refine W.widen (k := 661689) (n := 7116401) (by omega) (by omega) ?_
        exact lw_ret (d0 := s.drawn) (Drawn.sameBut.refl s.drawn lw_cs) hx hb hr hlocks dL_law_128
    all_goals
      unfold adA FA
      by_cases h1 : i < 135
      · rw [if_pos h1, if_pos h1]
        exact ⟨(uN_n (by omega)).trans ((uN_n (by omega)).trans ((uN_n (by omega)).trans ((uN_n (by omega)).trans ((uN_n (by omega)).trans ((cN_r (by omega)).trans rfl))))), (uN_n (by omega)).trans ((uN_n (by omega)).trans ((uN_n (by omega)).trans ((uN_n (by omega)).trans ((uN_n (by omega)).trans ((cN_r (by omega)).trans rfl)))))⟩
      · rw [if_neg h1, if_neg h1]
        rcases (show i = 135 ∨ i = 136 ∨ i = 137 ∨ i = 138 ∨ i = 139 by omega) with rfl | rfl | rfl | rfl | rfl
        · exact ⟨(uN_n (by omega)).trans ((uN_n (by omega)).trans ((uN_n (by omega)).trans ((uN_n (by omega)).trans (uN_e (by omega))))), (uN_n (by omega)).trans ((uN_n (by omega)).trans ((uN_n (by omega)).trans ((uN_n (by omega)).trans (uN_e (by omega)))))⟩
        · exact ⟨(uN_n (by omega)).trans ((uN_n (by omega)).trans ((uN_n (by omega)).trans (uN_e (by omega)))), (uN_n (by omega)).trans ((uN_n (by omega)).trans ((uN_n (by omega)).trans (uN_e (by omega))))⟩
        · exact ⟨(uN_n (by omega)).trans ((uN_n (by omega)).trans (uN_e (by omega))), (uN_n (by omega)).trans ((uN_n (by omega)).trans (uN_e (by omega)))⟩
        · exact ⟨(uN_n (by omega)).trans (uN_e (by omega)), (uN_n (by omega)).trans (uN_e (by omega))⟩
        · exact ⟨uN_e (by omega), uN_e (by omega)⟩
  exact E0 s.heap [] ls (fun k q hq => by simp [aW] at hq) ⟨fun i j p q hp => by simp [aW] at hp, fun k q hq => by simp [aW] at hq⟩ va_S.rf hl
-- ===== YOUR PART ENDS =====
set_option maxHeartbeats 4000000 in
theorem lw_walk (l : Launch) (hflags : l.flags = flags0) (b : Addr) (xs : List Int32) : MetFree l x (headSpec (Jvm.Cond.code x code maxLocals ret :: tables_1) room_1) (lw_P b xs) (fun _ _ _ _ _ => True) lw_Q := by
  refine MetFree.of_bodyS (code := code) (maxLocals := maxLocals) (ret := ret) (by decide) ?_ ?_
  · intro args s m h hn
    obtain ⟨meth, c, h1, h2, h3, h4, h5, h6, -, -⟩ := Cond.code_spec hn (atoms_spec (ws := Jvm.Cond.code x code maxLocals ret :: tables_1) h _ List.mem_cons_self)
    exact ⟨meth, c, h1, h2, h3, h4, h5, h6⟩
  · intro p e s m args below meth c s₁ B hml0 hP _
    obtain ⟨rfl, hx, hbd, hgv⟩ := hP
    obtain ⟨scr, harrAt, hlist, hof, hsmall⟩ := hx
    obtain ⟨hcb, hkn, -, -⟩ := State.arrayAt?_spec harrAt
    have hown : s.vm.findClass R_law = some m.cls := findClass_of_methodNamed B.named
    have hts0 : ∀ c ∈ (Jvm.Cond.code x code maxLocals ret :: tables_1), c.before #[Value.ref b] s = true := atoms_spec (ws := Jvm.Cond.code x code maxLocals ret :: tables_1) B.pre
    have hts : ∀ w ∈ lw_tbl, w.before #[Value.ref b] s = true := k2_hts_sels lw_privs (fun w hw => hts0 w (List.mem_cons_of_mem _ hw)) lw_privs_ok
    have hml : c.maxLocals = 8 := B.maxLocals_eq (hts0 _ List.mem_cons_self)
    have X₀ : Stand p l e room_1 s m #[Value.ref b] below meth c s₁ [] 0 0 := Stand.of_body B
    have hh0 : s₁.heap = s.heap := by rw [B.state]; rfl
    have hsz : scr.slots.size = xs.length := by rw [← Array.length_toList, hlist, List.length_map]
    have hval : ∀ j : Nat, j < xs.length → scr.slots[j]? = some (.int (xs.getD j 0)) := fun j hj => by
      rw [← Array.getElem?_toList, hlist]
      simp [hj]
    have hbl : b < s.heap.size := (Array.getElem?_eq_some_iff.mp hcb).1
    have hX : va_X b xs.length (fun j => xs.getD j 0) s s.heap := ⟨scr, hcb, hof, hkn, hsz, hval⟩
    have K : W p l e room_1 s m #[Value.ref b] below meth c s₁.heap [] 0 0 (lw_Z below #[Value.ref b] s) (entryFrame m ([Value.ref b] : List Value).toArray 8) := by
      rw [hh0]
      exact whole_start l hflags hbd ⟨B.exec, B.bytes, B.returns, hml, hown, hts, hX, hbl, B.notSynchronized, hgv⟩
    obtain ⟨t, a1, o, b1, b2, b3⟩ := K s₁ rfl X₀
    exact ⟨t, o, a1, b1, b2, b3⟩
theorem lw_pre_spec {args : Array Value} {s : State} (h : (Jvm.Cond.and given_1 narrow_1).before args s = true) (hr : rest_1_c.before args s = true) : ∃ (b : Addr) (xs : List Int32), lw_P b xs args s := by
  have hs := flat_of_before _ h
  have hq := flat_of_before _ hr
  have hc : (Cond.count 1).before args s = true := hs _ (by decide +kernel)
  have harr : (Cond.arrayOf (.arg 0) .int).before args s = true := hs _ (by decide +kernel)
  have hle : (Cond.le (.length (.arg 0)) (.int 260)).before args s = true := hs _ (by decide +kernel)
  have hlen : (Cond.isInt (.length (.arg 0))).before args s = true := hq _ (by decide +kernel)
  have hall : (Cond.all (.arg 0) (.isInt (.elem (.arg 0) (.index 0)))).before args s = true := hq _ (by decide +kernel)
  obtain ⟨b, xs, hb, hx⟩ := State.ints_of_pre rfl harr hlen hall
  have hsm : xs.length < 2 ^ 31 := hx.choose_spec.2.2.2
  have hev : (Term.length (.arg 0)).eval args s none [] s = some (.int xs.length.toInt32) := hx.length_eval hb
  have hv := Cond.le_ints hev (show (Term.int 260).eval args s none [] s = some (.int 260) from rfl)
  have hd : xs.length.toInt32 ≤ 260 := by
    simpa [Cond.before, Cond.holds, hv] using hle
  have hN : xs.length ≤ 260 := (Int32.ofNat_le_ofNat hsm (by decide)).mp (show Int32.ofNat xs.length ≤ Int32.ofNat 260 from hd)
  exact ⟨b, xs, Cond.one_arg hc (show args[0]? = some (.ref b) from hb), hx, hN, h⟩
theorem lw_comes (l : Launch) (hflags : l.flags = flags0) : Comes l x (Jvm.Cond.code x code maxLocals ret :: tables_1) room_1 (fun tb e args s => Calls_1 tb e args s ∧ rest_1 tb e args s ∧ Pre_1 tb e args s)
    (fun _ _ args s o t => lw_Q args s o t) := by
  intro p e ha hc hk s m args below hf hfit hheap happ hpre
  obtain ⟨b, xs, hP⟩ := lw_pre_spec hpre.2.2 hpre.2.1
  obtain ⟨k, o, h1, h2, h3, hQ⟩ := lw_walk l hflags b xs p e ha hc hk s m args below hf ((Spec.applies_iff_loose hf).mp happ).1 hP trivial
  exact ⟨k, o, h1, h2, h3, hQ⟩
theorem lw_frame {s t : State} {o : Outcome} {args : Array Value} (h : State.butDraws s t lw_cs (fun t1 => Framed s o t1 [] 661689 7116401)) :
    State.butDraws s t [Jvm.Choice.named "NaN.bits"] (fun t1 => Framed s o t1 (fieldLocs frame_1_writes args s ++ arrayLocs frame_1_arrays args s ++ staticLocs frame_1_statics s) 661689 7116401) := h
theorem lw_limb (L : Cond) (hL : ∀ (args : Array Value) (s t : State), L.after args s (.returned (some (.int 1))) t = true) :
    ArmFor flags0 classFile x code maxLocals ret World_1 tables_1 room_1 Calls_1 rest_1 Pre_1
      (fun tb e a s o t => postC L tb e a s o t ∧ State.butDraws s t [Jvm.Choice.named "NaN.bits"] (fun t1 => Framed s o t1 (fieldLocs frame_1_writes a s ++ arrayLocs frame_1_arrays a s ++ staticLocs frame_1_statics s) 661689 7116401)) := by
  intro l hflags _ _ p e ha hc hk s m args below hf hfit hheap happ hpre
  obtain ⟨k, o, h1, h2, h3, rfl, hF⟩ := lw_comes l hflags p e ha hc hk s m args below hf hfit hheap happ hpre
  exact ⟨k, _, h1, h2, h3, hL args s _, lw_frame hF⟩
theorem i_vc : Claimed_1_1 ∧ Claimed_1_2 := ⟨lw_limb limb_1_1 (fun args s t => by simp [limb_1_1, Cond.after, Cond.holds, Cond.value]), lw_limb limb_1_2 (fun args s t => Cond.after_iff.mpr (by
  first | (rw [show limb_1_2 = Cond.eq .result (.int 1) from rfl, Cond.eq_ints (x := 1) (y := 1) rfl rfl]; simp; done) | (simp [limb_1_2, Cond.value, Term.eval]; done)))⟩
