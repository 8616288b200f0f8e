/-! ===== the class: a reference handed back, texts (written by wip/whole/gen/cls6.py) ===== -/
section CV3
variable {l : Launch} {D : va_G} {cs : Nat → ClassId} {ad : Nat → Nat} {nL : Nat} {κ : Kx} {u : Nat} {M : Mm} {pc : Nat} {lv : List (Nat × Value)} {st : List Value} {cc : ByteArray} {own : String} {fr lo U : Nat}
def eR (l : Launch) (D : va_G) (cs : Nat → ClassId) (ad : Nat → Nat) (nL : Nat) (cc : ByteArray) (U : Nat) (κ : Kx) (k9 : Nat) (M0 : Mm) : Prop := ∀ (pc : Nat) (lv : List (Nat × Value)), decode cc pc = .ok (.areturn, 1) → VV l D cs ad nL κ 0 M0 pc lv [.ref (ad k9)]
theorem st_R {y : MethodName} {b : ByteArray} {n k9 : Nat} {As : List Value} {rt : FieldType} (hrt : (∃ n, rt = FieldType.object n) ∨ ∃ t : FieldType, rt = .array t) (hy : plainName y.cls = true) (hAs : (lg_sl As).length ≤ n) (body : ∀ κ, CX D cs ad b n y.cls fr lo 0 κ → eR l D cs ad n b 0 κ k9 M → VV l D cs ad n κ 0 M 0 (lv_args 0 As) []) (sz : Nat) : Met l y (.code y b n (some rt) :: TT) { frames := fr, cells := 0, slots := 0, locals := lo } (va_Pc As (fun U9 => U9.heap.size = sz ∧ wB D cs ad (fA ad sz) M U9)) (va_Qr (fun M2 => M2 = M) (fun M2 ra t => ra = ad k9 ∧ wB D cs ad (fA ad sz) M2 t) (fA ad sz)) 0 0 (fA ad sz) := by
  refine Met.ofW (cc := b) (maxL := n) (ret := some rt) hy rfl ?_
  intro p e s m args below meth c s₁ B hml hv
  obtain ⟨rfl, hsz, hP, hK, hD0⟩ := hv
  have hx := B.exec
  have hb := B.bytes
  have hr := B.returns
  have hts0 := atoms_spec (ws := .code y b n (some rt) :: TT) B.pre
  have hts : ∀ w ∈ TT, w.before As.toArray s = true := fun w hw => hts0 w (List.mem_cons_of_mem _ hw)
  have hown := findClass_of_methodNamed B.named
  have hlocks := B.notSynchronized
  subst hsz
  have hD : ∀ M, va_D (fA ad s.heap.size) (wW cs ad M) := fun M' => wD_any (fun i hi => fA_in hi) hD0 M'
  have hl := lv_entry As (n := n) hAs
  rw [lg_entry_eq]
  generalize (lg_sl As ++ List.replicate (n - (lg_sl As).length) Slot.unset).toArray = ls at hl ⊢
  refine body (p, e, _, s, m, As.toArray, below, meth, c, 0, 0, _) ⟨hx, hb, hml, hown, hts, hK, hD, rfl, rfl, Nat.le_refl _, Nat.le_refl _⟩ ?_ s.heap [] ls hP va_S.rf hl
  intro pc lv d
  intro H locs ls hP hS hl
  exact W.aret hx hb hr hrt (Or.inr ⟨_, rfl⟩) (fun t ht hW => ⟨⟨M, ad k9, rfl, rfl, rfl, by rw [ht]; exact hP, va_K.moved hW.alike hK, hD M⟩, hS.F ht⟩) hS.2.2 d hlocks
/-- a call that hands back a known thing -/
theorem r_pcallV_r (C : CX D cs ad cc nL own fr lo U κ) (hu : u ≤ U) {y : MethodName} {b : ByteArray} {n nA idx k9 : Nat} {rt : Option FieldType} {rm : Room} {rest : List Value} {Cn : String} {ci id : Nat} {q9 : vw_C} {fs : List Value} (As9 : List Value) (hM : ∀ sz, Met l y (.code y b n rt :: TT) rm (va_Pc (.ref (ad id) :: As9) (fun U9 => U9.heap.size = sz ∧ wB D cs ad (fA ad sz) M U9)) (va_Qr (fun M2 => M2 = M) (fun M2 ra t => ra = ad k9 ∧ wB D cs ad (fA ad sz) M2 t) (fA ad sz)) 0 0 (fA ad sz)) (hG : GoodIn TT (wsV own idx Cn y (.code y b n rt :: TT))) (hrm : rm.cells = 0 ∧ rm.slots = 0) (hyd : y.cls = Cn ∧ y.cls ≠ "java/lang/invoke/MethodHandle" ∧ y.cls ≠ "java/lang/invoke/VarHandle" ∧ (parseMethodDescriptor y.desc).map (fun d => d.parameters.length) = some nA) (hR : rm.frames + 1 ≤ fr ∧ 8 + (n + 11) + rm.locals ≤ lo) (hid : id < 146) (he : wF cs ad id (M.1 id) (M.2 id) = .inr (ci, fs)) (hc : vwCl[ci]? = some q9) (hq9 : q9.1 = Cn) (hn : As9.length = nA) (hst : st = As9.reverse ++ .ref (ad id) :: rest) (hW8 : (rest.map fun v => v.category).sum ≤ 8) (d : decode cc pc = .ok (.invokevirtual idx, 3)) (k : VV l D cs ad nL κ u M (pc + 3) lv (.ref (ad k9) :: rest)) : VV l D cs ad nL κ u M pc lv st := by
  obtain ⟨p, e, R, s, m, args, below, meth, c, c0, s0, Q⟩ := κ
  obtain ⟨hx, hb, hml, hown, hts, hK, hD, hfr, hlo, hc0, hs0⟩ := C
  intro H locs ls hP hS hl
  subst hst
  refine va_callr (va_runV (As := As9) (rest := rest) ⟨hx, hb, hml, hown, hts⟩ (hM H.size) (cwV nA hts hG rfl hrm.1 hrm.2 hyd ⟨by rw [hfr]; exact hR.1, by rw [hlo]; exact hR.2⟩) ⟨fb_B, ?_, pr_B hK hP (hD M)⟩ rfl hn hl.1 rfl (lv_room hW8) d ⟨by omega, by omega⟩) hS (fun q _ h => fA_mono hS.1 h) (fun q h => fA_mono hS.1 h) (fun M2 ra t H1 locs1 ht hvm hw hB hz1 hk1 hS1 => ?_)
  · have h9 := va_recv hK hP hc (show (wW cs ad M)[id]? = _ by rw [wW_get cs ad M hid, he])
    rw [hq9] at h9
    exact h9
  · obtain ⟨hra, hB⟩ := hB
    subst hra; subst hw
    exact k H1 locs1 ls (by rw [← ht]; exact hB.1) hS1 hl
end CV3
set_option maxRecDepth 100000 in
set_option maxHeartbeats 4000000 in
theorem c_X6_latestGraph (l : Launch) (D : va_G) (cs : Nat → ClassId) (ad : Nat → Nat) (M : Mm) (lt : Nat) (hlt : M.1 120 2 = nI lt) (hlt6 : lt < 6) : ∀ sz : Nat, Met l yX6_latestGraph (.code yX6_latestGraph cX6_latestGraph 1 (some (.object "CliqueLabels$Graph")) :: TT) { frames := 0, cells := 0, slots := 0, locals := 0 } (va_Pc [.ref (ad 120)] (fun U9 => U9.heap.size = sz ∧ wB D cs ad (fA ad sz) M U9)) (va_Qr (fun M2 => M2 = M) (fun M2 ra t => ra = ad (gO (3 + lt)) ∧ wB D cs ad (fA ad sz) M2 t) (fA ad sz)) 0 0 (fA ad sz) := by
  refine st_R (Or.inl ⟨_, rfl⟩) (by decide) (Nat.le_of_ble_eq_true rfl) (fun κ C E => ?_)
  refine r_lv (lv2 := [(0, .ref (ad 120))]) [0] rfl ?_
  refine r_aload_n C dX6_latestGraph_0 rfl 0 rfl ?_
  refine r_get C (Cn := RX6) (T := TX6) (N := 4) (id := 120) (by decide) inw_X6 rfl rfl 0 (by decide) rfl fl_X6_11 rfl dX6_latestGraph_1 ?_
  refine r_aload_n C dX6_latestGraph_4 rfl 0 rfl ?_
  refine r_get C (Cn := RX6) (T := TX6) (N := 4) (id := 120) (by decide) inw_X6 rfl rfl 2 (by decide) rfl fl_X6_21 rfl dX6_latestGraph_5 ?_
  refine r_topi (w := nI lt) hlt ?_
  refine r_aald C (id := 121) (n := 6) (a := lt) (id2 := (gO (3 + lt))) (t0 := 5) (by decide) rfl rfl rfl (by omega) (by decide) (if_pos (by omega)) dX6_latestGraph_8 ?_
  exact E _ _ dX6_latestGraph_9
def goN (ct : Nat → Nat) (n k : Nat) : Bool := decide (if k % 3 = 0 then 48 ≤ ct k ∧ ct k < 48 + n - 1 else if k % 3 = 1 then ct (k - 1) < ct k ∧ ct k < 48 + n else ct k = 44)
set_option maxRecDepth 100000 in
set_option maxHeartbeats 4000000 in
theorem c_X3_goesOn (l : Launch) (D : va_G) (cs : Nat → ClassId) (ad : Nat → Nat) (M : Mm) (ct : Nat → Nat) (len : Nat) (hct : ∀ k, k < len → M.1 124 k = nI (ct k) ∧ ct k ≤ 126) (hlen : M.1 123 1 = nI len) (hl60 : len ≤ 60) (k n : Nat) (hk : k < len) (hn8 : n ≤ 8) (hn1 : 1 ≤ n) : ∀ sz : Nat, Met l yX3_goesOn (.code yX3_goesOn cX3_goesOn 4 (some .boolean) :: TT) { frames := 0, cells := 0, slots := 0, locals := 0 } (va_Pc [.ref (ad 123), .int (nI k), .int (nI n)] (fun U9 => U9.heap.size = sz ∧ wB D cs ad (fA ad sz) M U9)) (va_Qi (fun r M2 => r = bI (goN ct n k) ∧ M2 = M) (wB D cs ad (fA ad sz)) (fA ad sz)) 0 0 (fA ad sz) := by
  have hck := (hct k hk).2
  refine st_Z (by decide) (Nat.le_of_ble_eq_true rfl) (fun κ C E => ?_)
  refine r_lv (lv2 := [(0, .ref (ad 123)), (1, .int (nI k)), (2, .int (nI n))]) [0, 1, 2] rfl ?_
  refine r_aload_n C dX3_goesOn_0 rfl 0 rfl ?_
  refine r_get C (Cn := RX3) (T := TX3) (N := 2) (id := 123) (by decide) inw_X3 rfl rfl 0 (by decide) rfl fl_X3_9 rfl dX3_goesOn_1 ?_
  refine r_iload_n C dX3_goesOn_4 rfl 1 rfl ?_
  refine r_cald C (id := 124) (n := 60) (a := k) (by decide) rfl (by omega) (by decide) dX3_goesOn_5 ?_
  refine r_topi (w := nI (ct k)) (hct k (by omega)).1 ?_
  refine r_istore_n C [(3, .int (nI (ct k))), (0, .ref (ad 123)), (1, .int (nI k)), (2, .int (nI n))] dX3_goesOn_6 rfl (by decide) rfl ?_
  refine r_iload_n C dX3_goesOn_7 rfl 2 rfl ?_
  refine r_iconst C (nI 3) dX3_goesOn_8 (by decide) ?_
  refine r_irem C dX3_goesOn_9 (by decide) ?_
  refine r_topi (pk_rem (a := k) (d := 3) (by omega) (by omega) (by omega)) ?_
  rcases (show k % 3 = 0 ∨ k % 3 = 1 ∨ k % 3 = 2 by omega) with h10 | h10 | h10
  ·
    refine r_topi (w := nI 0) (congrArg nI h10) ?_
    refine r_lookup C 36 dX3_goesOn_10 (by decide) rfl (by decide) ?_
    refine r_iload_n C dX3_goesOn_36 rfl 0 rfl ?_
    refine r_bipush C (nI 48) dX3_goesOn_37 (by decide) ?_
    refine r_icmpN_lt C 56 dX3_goesOn_39 (by decide) (by omega) (by omega) (fun h39 => ?_) (fun h39 => ?_)
    ·
      refine r_iconst C (nI 0) dX3_goesOn_56 (by decide) ?_
      exact E 0 _ _ _ _ (Nat.le_of_ble_eq_true rfl) dX3_goesOn_57 rfl (⟨bI_off (decide_eq_false (by rw [if_pos h10]; omega)), rfl⟩)
    ·
      refine r_iload_n C dX3_goesOn_42 rfl 0 rfl ?_
      refine r_bipush C (nI 48) dX3_goesOn_43 (by decide) ?_
      refine r_iload_n C dX3_goesOn_45 rfl 3 rfl ?_
      refine r_iadd C dX3_goesOn_46 ?_
      refine r_topi (nI_add 48 n) ?_
      refine r_iconst C (nI 1) dX3_goesOn_47 (by decide) ?_
      refine r_isub C dX3_goesOn_48 ?_
      refine r_topi (pk_sub (a := 48 + n) (b := 1) (by omega)) ?_
      refine r_icmpN_ge C 56 dX3_goesOn_49 (by decide) (by omega) (by omega) (fun h49 => ?_) (fun h49 => ?_)
      ·
        refine r_iconst C (nI 0) dX3_goesOn_56 (by decide) ?_
        exact E 0 _ _ _ _ (Nat.le_of_ble_eq_true rfl) dX3_goesOn_57 rfl (⟨bI_off (decide_eq_false (by rw [if_pos h10]; omega)), rfl⟩)
      ·
        refine r_iconst C (nI 1) dX3_goesOn_52 (by decide) ?_
        refine r_goto C 57 dX3_goesOn_53 (by decide) ?_
        exact E 0 _ _ _ _ (Nat.le_of_ble_eq_true rfl) dX3_goesOn_57 rfl (⟨bI_on (decide_eq_true (by rw [if_pos h10]; omega)), rfl⟩)
  ·
    refine r_topi (w := nI 1) (congrArg nI h10) ?_
    refine r_lookup C 58 dX3_goesOn_10 (by decide) rfl (by decide) ?_
    have hck1 := (hct (k - 1) (by omega)).2
    refine r_iload_n C dX3_goesOn_58 rfl 0 rfl ?_
    refine r_aload_n C dX3_goesOn_59 rfl 1 rfl ?_
    refine r_get C (Cn := RX3) (T := TX3) (N := 2) (id := 123) (by decide) inw_X3 rfl rfl 0 (by decide) rfl fl_X3_9 rfl dX3_goesOn_60 ?_
    refine r_iload_n C dX3_goesOn_63 rfl 2 rfl ?_
    refine r_iconst C (nI 1) dX3_goesOn_64 (by decide) ?_
    refine r_isub C dX3_goesOn_65 ?_
    refine r_topi (pk_sub (a := k) (b := 1) (by omega)) ?_
    refine r_cald C (id := 124) (n := 60) (a := k - 1) (by decide) rfl (by omega) (by decide) dX3_goesOn_66 ?_
    refine r_topi (w := nI (ct (k - 1))) (hct (k - 1) (by omega)).1 ?_
    refine r_icmpN_le C 82 dX3_goesOn_67 (by decide) (by omega) (by omega) (fun h67 => ?_) (fun h67 => ?_)
    ·
      refine r_iconst C (nI 0) dX3_goesOn_82 (by decide) ?_
      exact E 0 _ _ _ _ (Nat.le_of_ble_eq_true rfl) dX3_goesOn_83 rfl (⟨bI_off (decide_eq_false (by rw [if_neg (by omega), if_pos h10]; omega)), rfl⟩)
    ·
      refine r_iload_n C dX3_goesOn_70 rfl 0 rfl ?_
      refine r_bipush C (nI 48) dX3_goesOn_71 (by decide) ?_
      refine r_iload_n C dX3_goesOn_73 rfl 3 rfl ?_
      refine r_iadd C dX3_goesOn_74 ?_
      refine r_topi (nI_add 48 n) ?_
      refine r_icmpN_ge C 82 dX3_goesOn_75 (by decide) (by omega) (by omega) (fun h75 => ?_) (fun h75 => ?_)
      ·
        refine r_iconst C (nI 0) dX3_goesOn_82 (by decide) ?_
        exact E 0 _ _ _ _ (Nat.le_of_ble_eq_true rfl) dX3_goesOn_83 rfl (⟨bI_off (decide_eq_false (by rw [if_neg (by omega), if_pos h10]; omega)), rfl⟩)
      ·
        refine r_iconst C (nI 1) dX3_goesOn_78 (by decide) ?_
        refine r_goto C 83 dX3_goesOn_79 (by decide) ?_
        exact E 0 _ _ _ _ (Nat.le_of_ble_eq_true rfl) dX3_goesOn_83 rfl (⟨bI_on (decide_eq_true (by rw [if_neg (by omega), if_pos h10]; omega)), rfl⟩)
  ·
    refine r_topi (w := nI 2) (congrArg nI h10) ?_
    refine r_lookup C 84 dX3_goesOn_10 (by decide) rfl (by decide) ?_
    refine r_iload_n C dX3_goesOn_84 rfl 0 rfl ?_
    refine r_bipush C (nI 44) dX3_goesOn_85 (by decide) ?_
    refine r_icmpN_ne C 94 dX3_goesOn_87 (by decide) (by omega) (by omega) (fun h87 => ?_) (fun h87 => ?_)
    ·
      refine r_iconst C (nI 0) dX3_goesOn_94 (by decide) ?_
      exact E 0 _ _ _ _ (Nat.le_of_ble_eq_true rfl) dX3_goesOn_95 rfl (⟨bI_off (decide_eq_false (by rw [if_neg (by omega), if_neg (by omega)]; omega)), rfl⟩)
    ·
      refine r_iconst C (nI 1) dX3_goesOn_90 (by decide) ?_
      refine r_goto C 95 dX3_goesOn_91 (by decide) ?_
      exact E 0 _ _ _ _ (Nat.le_of_ble_eq_true rfl) dX3_goesOn_95 rfl (⟨bI_on (decide_eq_true (by rw [if_neg (by omega), if_neg (by omega)]; omega)), rfl⟩)
set_option maxRecDepth 100000 in
set_option maxHeartbeats 4000000 in
theorem c_X3_firstFault (l : Launch) (D : va_G) (cs : Nat → ClassId) (ad : Nat → Nat) (M : Mm) (ct : Nat → Nat) (len : Nat) (hct : ∀ k, k < len → M.1 124 k = nI (ct k) ∧ ct k ≤ 126) (hlen : M.1 123 1 = nI len) (hl60 : len ≤ 60) (n : Nat) (hn8 : n ≤ 8) (hn1 : 1 ≤ n) : ∀ sz : Nat, Met l yX3_firstFault (.code yX3_firstFault cX3_firstFault 3 (some .int) :: TT) { frames := 1, cells := 0, slots := 0, locals := 23 } (va_Pc [.ref (ad 123), .int (nI n)] (fun U9 => U9.heap.size = sz ∧ wB D cs ad (fA ad sz) M U9)) (va_Qi (fun r M2 => r = nI (fi (fun k => !goN ct n k) len) ∧ M2 = M) (wB D cs ad (fA ad sz)) (fA ad sz)) 0 0 (fA ad sz) := by
  refine st_I (by decide) (Nat.le_of_ble_eq_true rfl) (fun κ C E => ?_)
  refine r_lv (lv2 := [(0, .ref (ad 123)), (1, .int (nI n))]) [0, 1] rfl ?_
  refine r_iconst C (nI 0) dX3_firstFault_0 (by decide) ?_
  refine r_istore_n C [(2, .int (nI 0)), (0, .ref (ad 123)), (1, .int (nI n))] dX3_firstFault_1 rfl (by decide) rfl ?_
  have Lp : ∀ (f k : Nat), len + 1 ≤ k + f → k ≤ len → (∀ j, j < k → (!goN ct n j) = false) → VV l D cs ad 3 κ 0 M 2 [(2, .int (nI k)), (0, .ref (ad 123)), (1, .int (nI n))] [] := by
    intro f
    induction f with
    | zero => intro k hk1 hk2 hI; exact absurd hk1 (by omega)
    | succ f ih =>
      intro k hk1 hk2 hI
      refine r_iload_n C dX3_firstFault_2 rfl 0 rfl ?_
      refine r_aload_n C dX3_firstFault_3 rfl 1 rfl ?_
      refine r_get C (Cn := RX3) (T := TX3) (N := 2) (id := 123) (by decide) inw_X3 rfl rfl 1 (by decide) rfl fl_X3_15 rfl dX3_firstFault_4 ?_
      refine r_topi (w := nI len) hlen ?_
      refine r_icmpN_ge C 27 dX3_firstFault_7 (by decide) (by omega) (by omega) (fun h7 => ?_) (fun h7 => ?_)
      ·
        have hk9 : len = k := by omega
        subst hk9
        refine r_aload_n C dX3_firstFault_27 rfl 1 rfl ?_
        refine r_get C (Cn := RX3) (T := TX3) (N := 2) (id := 123) (by decide) inw_X3 rfl rfl 1 (by decide) rfl fl_X3_15 rfl dX3_firstFault_28 ?_
        refine r_topi (w := nI len) hlen ?_
        exact E 0 _ _ _ _ (Nat.le_of_ble_eq_true rfl) dX3_firstFault_31 (⟨by rw [fi_none hI], rfl⟩)
      ·
        refine r_aload_n C dX3_firstFault_10 rfl 1 rfl ?_
        refine r_iload_n C dX3_firstFault_11 rfl 0 rfl ?_
        refine r_iload_n C dX3_firstFault_12 rfl 2 rfl ?_
        refine r_pcallV_i (nA := 2) C (Nat.le_of_ble_eq_true rfl) [.int (nI k), .int (nI n)] (c_X3_goesOn l D cs ad M  ct len hct hlen hl60 k n (by omega) hn8 hn1) (tt_V ml_X3_19 im_X3_goesOn se_X3_goesOn in_X3 co_X3_goesOn) ⟨rfl, rfl⟩ ⟨rfl, by decide, by decide, by decide⟩ ⟨Nat.le_of_ble_eq_true rfl, Nat.le_of_ble_eq_true rfl⟩ (by decide) rfl rfl rfl rfl rfl (Nat.le_of_ble_eq_true rfl) dX3_firstFault_13 ?_
        refine r_ifB_ne C 21 dX3_firstFault_16 (by decide) (fun h16 => ?_) (fun h16 => ?_)
        ·
          refine r_iinc C (nI (k + 1)) [(2, .int (nI (k + 1))), (0, .ref (ad 123)), (1, .int (nI n))] dX3_firstFault_21 (j := 0) rfl (inc_n k 1) (by decide) rfl ?_
          refine r_goto C 2 dX3_firstFault_24 (by decide) ?_
          refine r_lv (lv2 := [(2, .int (nI (k + 1))), (0, .ref (ad 123)), (1, .int (nI n))]) [0, 1, 2] rfl ?_
          exact ih (k + 1) (by omega) (by omega) (lt9s hI (by simp [h16]))
        ·
          refine r_iload_n C dX3_firstFault_19 rfl 0 rfl ?_
          exact E 0 _ _ _ _ (Nat.le_of_ble_eq_true rfl) dX3_firstFault_20 (⟨by rw [fi_at (p := fun k => !goN ct n k) (by omega) (by simp [h16]) hI], rfl⟩)
  refine r_lv (lv2 := [(2, .int (nI 0)), (0, .ref (ad 123)), (1, .int (nI n))]) [0, 1, 2] rfl ?_
  exact Lp (len + 1) 0 (by omega) (by omega) (fun j hj => absurd hj (Nat.not_lt_zero j))
set_option maxRecDepth 100000 in
set_option maxHeartbeats 4000000 in
theorem c_X3_isWhole (l : Launch) (D : va_G) (cs : Nat → ClassId) (ad : Nat → Nat) (M : Mm) (ct : Nat → Nat) (len : Nat) (hct : ∀ k, k < len → M.1 124 k = nI (ct k) ∧ ct k ≤ 126) (hlen : M.1 123 1 = nI len) (hl60 : len ≤ 60) (n : Nat) (hn8 : n ≤ 8) (hn1 : 1 ≤ n) : ∀ sz : Nat, Met l yX3_isWhole (.code yX3_isWhole cX3_isWhole 2 (some .boolean) :: TT) { frames := 2, cells := 0, slots := 0, locals := 45 } (va_Pc [.ref (ad 123), .int (nI n)] (fun U9 => U9.heap.size = sz ∧ wB D cs ad (fA ad sz) M U9)) (va_Qi (fun r M2 => r = bI (decide (len % 3 = 2 ∧ fi (fun k => !goN ct n k) len = len)) ∧ M2 = M) (wB D cs ad (fA ad sz)) (fA ad sz)) 0 0 (fA ad sz) := by
  have hfl := fi_le (fun k => !goN ct n k) len
  refine st_Z (by decide) (Nat.le_of_ble_eq_true rfl) (fun κ C E => ?_)
  refine r_lv (lv2 := [(0, .ref (ad 123)), (1, .int (nI n))]) [0, 1] rfl ?_
  refine r_aload_n C dX3_isWhole_0 rfl 0 rfl ?_
  refine r_get C (Cn := RX3) (T := TX3) (N := 2) (id := 123) (by decide) inw_X3 rfl rfl 1 (by decide) rfl fl_X3_15 rfl dX3_isWhole_1 ?_
  refine r_topi (w := nI len) hlen ?_
  refine r_iconst C (nI 3) dX3_isWhole_4 (by decide) ?_
  refine r_irem C dX3_isWhole_5 (by decide) ?_
  refine r_topi (pk_rem (a := len) (d := 3) (by omega) (by omega) (by omega)) ?_
  refine r_iconst C (nI 2) dX3_isWhole_6 (by decide) ?_
  refine r_icmpN_ne C 26 dX3_isWhole_7 (by decide) (by omega) (by omega) (fun h7 => ?_) (fun h7 => ?_)
  ·
    refine r_iconst C (nI 0) dX3_isWhole_26 (by decide) ?_
    exact E 0 _ _ _ _ (Nat.le_of_ble_eq_true rfl) dX3_isWhole_27 rfl (⟨bI_off (decide_eq_false (by omega)), rfl⟩)
  ·
    refine r_aload_n C dX3_isWhole_10 rfl 0 rfl ?_
    refine r_iload_n C dX3_isWhole_11 rfl 1 rfl ?_
    refine r_pcallV_i (nA := 1) C (Nat.le_of_ble_eq_true rfl) [.int (nI n)] (c_X3_firstFault l D cs ad M  ct len hct hlen hl60 n hn8 hn1) (tt_V ml_X3_23 im_X3_firstFault se_X3_firstFault in_X3 co_X3_firstFault) ⟨rfl, rfl⟩ ⟨rfl, by decide, by decide, by decide⟩ ⟨Nat.le_of_ble_eq_true rfl, Nat.le_of_ble_eq_true rfl⟩ (by decide) rfl rfl rfl rfl rfl (Nat.le_of_ble_eq_true rfl) dX3_isWhole_12 ?_
    refine r_aload_n C dX3_isWhole_15 rfl 0 rfl ?_
    refine r_get C (Cn := RX3) (T := TX3) (N := 2) (id := 123) (by decide) inw_X3 rfl rfl 1 (by decide) rfl fl_X3_15 rfl dX3_isWhole_16 ?_
    refine r_topi (w := nI len) hlen ?_
    refine r_icmpN_ne C 26 dX3_isWhole_19 (by decide) (by omega) (by omega) (fun h19 => ?_) (fun h19 => ?_)
    ·
      refine r_iconst C (nI 0) dX3_isWhole_26 (by decide) ?_
      exact E 0 _ _ _ _ (Nat.le_of_ble_eq_true rfl) dX3_isWhole_27 rfl (⟨bI_off (decide_eq_false (by omega)), rfl⟩)
    ·
      refine r_iconst C (nI 1) dX3_isWhole_22 (by decide) ?_
      refine r_goto C 27 dX3_isWhole_23 (by decide) ?_
      exact E 0 _ _ _ _ (Nat.le_of_ble_eq_true rfl) dX3_isWhole_27 rfl (⟨bI_on (decide_eq_true (by omega)), rfl⟩)
set_option maxRecDepth 100000 in
set_option maxHeartbeats 4000000 in
theorem c_X3_joinAll (l : Launch) (D : va_G) (cs : Nat → ClassId) (ad : Nat → Nat) (M : Mm) (ct : Nat → Nat) (len : Nat) (hct : ∀ k, k < len → M.1 124 k = nI (ct k) ∧ ct k ≤ 126) (hlen : M.1 123 1 = nI len) (hl60 : len ≤ 60) (z : Nat → Int32) (n d : Nat) (hg : gv M 0 (gH 0) z n d) (hn8 : n ≤ 8) (J : Nat) (hJ : 3 * J = len + 1) (hda : ∀ j, 3 * j + 1 < len → 48 ≤ ct (3 * j) ∧ ct (3 * j) < ct (3 * j + 1) ∧ ct (3 * j + 1) < 48 + n) : ∀ sz : Nat, Met l yX3_joinAll (.code yX3_joinAll cX3_joinAll 3 none :: TT) { frames := 1, cells := 0, slots := 0, locals := 23 } (va_Pc [.ref (ad 123), .ref (ad (gO 0))] (fun U9 => U9.heap.size = sz ∧ wB D cs ad (fA ad sz) M U9)) (va_Qv (fun M2 => oG 0 M M2 ∧ gv M2 0 (gH 0) (rdR z (fun j => ct (3 * j) - 48) (fun j => ct (3 * j + 1) - 48) J) n d) (wB D cs ad (fA ad sz)) (fA ad sz)) 0 0 (fA ad sz) := by
  refine st_V (by decide) (Nat.le_of_ble_eq_true rfl) (fun κ C E => ?_)
  refine r_lv (lv2 := [(0, .ref (ad 123)), (1, .ref (ad (gO 0)))]) [0, 1] rfl ?_
  refine r_iconst C (nI 0) dX3_joinAll_0 (by decide) ?_
  refine r_istore_n C [(2, .int (nI 0)), (0, .ref (ad 123)), (1, .ref (ad (gO 0)))] dX3_joinAll_1 rfl (by decide) rfl ?_
  have Lp : ∀ (f k : Nat) (M3 : Mm), J + 1 ≤ k + f → k ≤ J → (oG 0 M M3 ∧ gv M3 0 (gH 0) (rdR z (fun j => ct (3 * j) - 48) (fun j => ct (3 * j + 1) - 48) k) n d) → VV l D cs ad 3 κ 0 M3 2 [(2, .int (nI (3 * k))), (0, .ref (ad 123)), (1, .ref (ad (gO 0)))] [] := by
    intro f
    induction f with
    | zero => intro k M3 hk1 hk2 hI; exact absurd hk1 (by omega)
    | succ f ih =>
      intro k M3 hk1 hk2 hI
      refine r_iload_n C dX3_joinAll_2 rfl 0 rfl ?_
      refine r_iconst C (nI 1) dX3_joinAll_3 (by decide) ?_
      refine r_iadd C dX3_joinAll_4 ?_
      refine r_topi (nI_add (3 * k) 1) ?_
      refine r_aload_n C dX3_joinAll_5 rfl 1 rfl ?_
      refine r_get C (Cn := RX3) (T := TX3) (N := 2) (id := 123) (by decide) inw_X3 rfl rfl 1 (by decide) rfl fl_X3_15 rfl dX3_joinAll_6 ?_
      refine r_topi (w := nI len) ((congrFun (hI.1.1 123 (by decide)) 1).trans hlen) ?_
      refine r_icmpN_ge C 43 dX3_joinAll_9 (by decide) (by omega) (by omega) (fun h9 => ?_) (fun h9 => ?_)
      ·
        have hk9 : k = J := by omega
        subst hk9
        exact E 0 _ _ _ (Nat.le_of_ble_eq_true rfl) dX3_joinAll_43 (hI)
      ·
        obtain ⟨ja, jb9, jc⟩ := hda k (by omega)
        refine r_aload_n C dX3_joinAll_12 rfl 2 rfl ?_
        refine r_aload_n C dX3_joinAll_13 rfl 1 rfl ?_
        refine r_get C (Cn := RX3) (T := TX3) (N := 2) (id := 123) (by decide) inw_X3 rfl rfl 0 (by decide) rfl fl_X3_9 rfl dX3_joinAll_14 ?_
        refine r_iload_n C dX3_joinAll_17 rfl 0 rfl ?_
        refine r_cald C (id := 124) (n := 60) (a := 3 * k) (by decide) rfl (by omega) (by decide) dX3_joinAll_18 ?_
        refine r_topi (w := nI (ct (3 * k))) ((congrFun (hI.1.1 124 (by decide)) _).trans (hct (3 * k) (by omega)).1) ?_
        refine r_bipush C (nI 48) dX3_joinAll_19 (by decide) ?_
        refine r_isub C dX3_joinAll_21 ?_
        refine r_topi (pk_sub (a := ct (3 * k)) (b := 48) (by omega)) ?_
        refine r_aload_n C dX3_joinAll_22 rfl 1 rfl ?_
        refine r_get C (Cn := RX3) (T := TX3) (N := 2) (id := 123) (by decide) inw_X3 rfl rfl 0 (by decide) rfl fl_X3_9 rfl dX3_joinAll_23 ?_
        refine r_iload_n C dX3_joinAll_26 rfl 0 rfl ?_
        refine r_iconst C (nI 1) dX3_joinAll_27 (by decide) ?_
        refine r_iadd C dX3_joinAll_28 ?_
        refine r_topi (nI_add (3 * k) 1) ?_
        refine r_cald C (id := 124) (n := 60) (a := (3 * k) + 1) (by decide) rfl (by omega) (by decide) dX3_joinAll_29 ?_
        refine r_topi (w := nI (ct ((3 * k) + 1))) ((congrFun (hI.1.1 124 (by decide)) _).trans (hct ((3 * k) + 1) (by omega)).1) ?_
        refine r_bipush C (nI 48) dX3_joinAll_30 (by decide) ?_
        refine r_isub C dX3_joinAll_32 ?_
        refine r_topi (pk_sub (a := ct ((3 * k) + 1)) (b := 48) (by omega)) ?_
        refine r_iconst C (nI 1) dX3_joinAll_33 (by decide) ?_
        refine r_callV_v (nA := 3) C (Nat.le_of_ble_eq_true rfl) [.int (nI ((ct (3 * k)) - 48)), .int (nI ((ct ((3 * k) + 1)) - 48)), .int (nI 1)] (c_X4_connect l D cs ad M3  (rdR z (fun j => ct (3 * j) - 48) (fun j => ct (3 * j + 1) - 48) k) n d hI.2 hn8 (ct (3 * k) - 48) (ct (3 * k + 1) - 48) true (by omega) (by omega) (by omega)) (tt_V ml_X3_27 im_X4_connect se_X4_connect in_X4 co_X4_connect) ⟨rfl, rfl⟩ ⟨rfl, by decide, by decide, by decide⟩ ⟨Nat.le_of_ble_eq_true rfl, Nat.le_of_ble_eq_true rfl⟩ (by simp only [gO, gN, gW, gL, gR, gH] <;> omega) (wF_O cs ad (by decide) _ _) rfl rfl rfl rfl (Nat.le_of_ble_eq_true rfl) dX3_joinAll_34 (fun Mu1 qu1 => ?_)
        refine r_iinc C (nI ((3 * k) + 3)) [(2, .int (nI ((3 * k) + 3))), (0, .ref (ad 123)), (1, .ref (ad (gO 0)))] dX3_joinAll_37 (j := 0) rfl (inc_n (3 * k) 3) (by decide) rfl ?_
        refine r_goto C 2 dX3_joinAll_40 (by decide) ?_
        refine r_lv (lv2 := [(2, .int (nI (3 * (k + 1)))), (0, .ref (ad 123)), (1, .ref (ad (gO 0)))]) [0, 1, 2] rfl ?_
        exact ih (k + 1) _ (by omega) (by omega) ⟨hI.1.tr qu1.1, qu1.2⟩
  refine r_lv (lv2 := [(2, .int (nI (3 * 0))), (0, .ref (ad 123)), (1, .ref (ad (gO 0)))]) [0, 1, 2] rfl ?_
  exact Lp (J + 1) 0 _ (by omega) (by omega) ⟨oG.rf 0 M, hg⟩
