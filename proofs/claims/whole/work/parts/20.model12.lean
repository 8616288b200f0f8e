/-! ===== bits of doubles, the digest (written by wip/whole/gen/model12.py) ===== -/
theorem ml_draw : Cond.methodLink RJxe99ae 134 ⟨"java/lang/Double", "doubleToRawLongBits", "(D)J"⟩ ∈ TT := tt_m 1240 (by decide +kernel) rfl
theorem st_draw : Cond.static ⟨"java/lang/Double", "doubleToRawLongBits", "(D)J"⟩ ∈ TT := tt_m 1241 (by decide +kernel) rfl
theorem na_draw : Cond.native ⟨"java/lang/Double", "doubleToRawLongBits", "(D)J"⟩ ∈ TT := tt_m 1242 (by decide +kernel) rfl
theorem r_d2raw {l : Launch} {D : va_G} {cs : Nat → ClassId} {ad : Nat → Nat} {nL : Nat} {κ : Kx} {u : Nat} {M : Mm} {pc : Nat} {lv : List (Nat × Value)} {st : List Value} {cc : ByteArray} {own : String} {fr lo U : Nat} (C : CX D cs ad cc nL own fr lo U κ) {x : UInt64} {index : Nat} (w1 : Cond.methodLink own index ⟨"java/lang/Double", "doubleToRawLongBits", "(D)J"⟩ ∈ TT) (w2 : Cond.native ⟨"java/lang/Double", "doubleToRawLongBits", "(D)J"⟩ ∈ TT) (w3 : Cond.static ⟨"java/lang/Double", "doubleToRawLongBits", "(D)J"⟩ ∈ TT) (w4 : Cond.initialized "java/lang/Double" ∈ TT) (hfr1 : 1 ≤ fr) (hlo1 : (st.map fun v => v.category).sum + 15 ≤ lo) (d : decode cc pc = .ok (.invokestatic index, 3)) (k : VV l D cs ad nL κ u M (pc + 3) lv (.long x.toInt64 :: st)) : VV l D cs ad nL κ u M pc lv (.double x :: st) := by
  obtain ⟨p, e, R, s, m, args, below, meth, c, c0, s0, Q⟩ := κ
  obtain ⟨hx, hb, hml, hown, hts, hK, hD, hfr, hlo, hc0, hs0⟩ := C
  intro H locs ls hP hS hl
  exact vn_d2l hx hb (hml.trans hl.1.symm) hown (hts _ w1) (hts _ w2) (hts _ w3) (hts _ w4) (by rw [hfr]; exact hfr1) (by rw [hlo]; exact hlo1) d (k H locs ls hP hS hl)
theorem r_topd {l : Launch} {D : va_G} {cs : Nat → ClassId} {ad : Nat → Nat} {nL : Nat} {κ : Kx} {u : Nat} {M : Mm} {pc : Nat} {lv : List (Nat × Value)} {st : List Value} {v w : UInt64} (h : v = w) (k : VV l D cs ad nL κ u M pc lv (.double w :: st)) : VV l D cs ad nL κ u M pc lv (.double v :: st) := h ▸ k
def dnn (x : UInt64) : Prop := Op.cmpValue (FP.dcmp x x) .l = 0
set_option maxRecDepth 100000 in
set_option maxHeartbeats 4000000 in
theorem c_isNaN (l : Launch) (D : va_G) (cs : Nat → ClassId) (ad : Nat → Nat) (M : Mm) (x : UInt64) (hx : dnn x) : ∀ sz : Nat, Met l yJxe99ae_isNaN_b9ae7 (.code yJxe99ae_isNaN_b9ae7 cJxe99ae_isNaN_b9ae7 2 (some .boolean) :: TT) { frames := 0, cells := 0, slots := 0, locals := 0 } (va_Pc [.double x] (fun U9 => U9.heap.size = sz ∧ wB D cs ad (fA ad sz) M U9)) (va_Qi (fun r M2 => r = bI false ∧ M2 = M) (wB D cs ad (fA ad sz)) (fA ad sz)) 0 0 (fA ad sz) := by
  refine st_Z (by decide) (Nat.le_of_ble_eq_true rfl) (fun κ C E => ?_)
  refine r_lv (lv2 := [(0, .double x)]) [0] rfl ?_
  refine r_dload_n C dJxe99ae_isNaN_b9ae7_0 rfl 0 rfl ?_
  refine r_dload_n C dJxe99ae_isNaN_b9ae7_1 rfl 0 rfl ?_
  refine r_dcmp C dJxe99ae_isNaN_b9ae7_2 ?_
  refine r_if_eq C 10 dJxe99ae_isNaN_b9ae7_3 (by decide) (fun h3 => ?_) (fun h3 => ?_)
  ·
    refine r_iconst C (nI 0) dJxe99ae_isNaN_b9ae7_10 (by decide) ?_
    exact E 0 _ _ _ _ (Nat.le_of_ble_eq_true rfl) dJxe99ae_isNaN_b9ae7_11 rfl (⟨rfl, rfl⟩)
  · exact absurd hx h3
set_option maxRecDepth 100000 in
set_option maxHeartbeats 4000000 in
theorem c_dlb (l : Launch) (D : va_G) (cs : Nat → ClassId) (ad : Nat → Nat) (M : Mm) (x : UInt64) (hx : dnn x) : ∀ sz : Nat, Met l yJxe99ae_doubleToLongBits_ccdee (.code yJxe99ae_doubleToLongBits_ccdee cJxe99ae_doubleToLongBits_ccdee 2 (some .long) :: TT) { frames := 1, cells := 0, slots := 0, locals := 25 } (va_Pc [.double x] (fun U9 => U9.heap.size = sz ∧ wB D cs ad (fA ad sz) M U9)) (va_Ql (fun r M2 => r = x.toInt64 ∧ M2 = M) (wB D cs ad (fA ad sz)) (fA ad sz)) 0 0 (fA ad sz) := by
  refine st_L (by decide) (Nat.le_of_ble_eq_true rfl) (fun κ C E => ?_)
  refine r_lv (lv2 := [(0, .double x)]) [0] rfl ?_
  refine r_dload_n C dJxe99ae_doubleToLongBits_ccdee_0 rfl 0 rfl ?_
  refine r_pcallS_i (nA := 1) C (Nat.le_of_ble_eq_true rfl) [.double x] (c_isNaN l D cs ad M x hx) (tt_S ml_Jxe99ae_122 st_Jxe99ae_isNaN_b9ae7 in_Jxe99ae co_Jxe99ae_isNaN_b9ae7) ⟨rfl, rfl⟩ ⟨rfl, by decide, by decide, by decide⟩ ⟨Nat.le_of_ble_eq_true rfl, Nat.le_of_ble_eq_true rfl⟩ rfl rfl (Nat.le_of_ble_eq_true rfl) dJxe99ae_doubleToLongBits_ccdee_1 ?_
  refine r_ifB_ne C 12 dJxe99ae_doubleToLongBits_ccdee_4 (by decide) (fun h4 => ?_) (fun h4 => ?_)
  · exact absurd (h4.symm.trans rfl) (by decide)
  ·
    refine r_dload_n C dJxe99ae_doubleToLongBits_ccdee_7 rfl 0 rfl ?_
    refine r_d2raw C ml_draw na_draw st_draw in_Jxe99ae (Nat.le_of_ble_eq_true rfl) (Nat.le_of_ble_eq_true rfl) dJxe99ae_doubleToLongBits_ccdee_8 ?_
    exact E 0 _ _ _ _ (Nat.le_of_ble_eq_true rfl) dJxe99ae_doubleToLongBits_ccdee_11 (⟨rfl, rfl⟩)
/-- the digest: the hash of the whole state -/
def dgz (z tk tx : Nat → Int32) (st : Int32) (n d len : Nat) (wt U S0 : Nat → Nat) (H0 : Nat) (U1 : Nat → Nat) (S : Nat → Nat → Nat) (H : Nat → Nat) : Int64 :=
  hsC cT (fun k => (tx k).toInt64) (31 * (31 * hsC cB (fun w => bhz z n d 3 1 wt U1 S H w) (hsC cT (fun w => (rnz z n w).toInt64) (hsC cT (fun p => bdz z n wt U S0 H0 p) (hsC cT (fun p => (z (50 + p)).toInt64) (mvs z n (hsC cT (fun k => (ctz z tk st n d k).toInt64) 2521 12) n) d) 3) 3) 14 + (nrz z n wt U S0 H0).toInt64) + lN len) len
theorem mJ_eq0 {M : Mm} {v : Int64} : (mJ M 135 17 v).2 135 17 = v := by rw [mJ_eq]; exact if_pos rfl
set_option maxRecDepth 100000 in
set_option maxHeartbeats 4000000 in
theorem c_X8_digest (l : Launch) (D : va_G) (cs : Nat → ClassId) (ad : Nat → Nat) (M : Mm) (n : Nat) (hn : M.1 136 0 = nI n) (hn8 : n ≤ 8) (d : Nat) (hd : M.1 136 1 = nI d) (hd4 : d ≤ 4) (len : Nat) (hl : M.1 135 5 = nI len) (hl60 : len ≤ 60) (hn1 : 1 ≤ n) (hex : fi (fun k => (cfC (M.1 136) n k).isSome) n < n) (wt U S0 : Nat → Nat) (H0 : Nat) (hBr : rsz (M.1 136) n = nI 0 → bnH (M.1 136) n wt U S0 H0) (U1 : Nat → Nat) (S : Nat → Nat → Nat) (H : Nat → Nat) (hBB : lbHyp (M.1 136) n d 3 1 wt U1 S H) (hnn : rsz (M.1 136) n = nI 0 → ¬ bnA wt U S0 H0 n = 0 → vf_n64 (FP.dmul (FP.i2d (wz (M.1 136) n (hvz (M.1 136) n (nI 0)))) (FP.l2d (lN (bnB wt U S0 H0 n)))) ∧ vf_n64 (FP.ddiv (FP.dmul (FP.i2d (wz (M.1 136) n (hvz (M.1 136) n (nI 0)))) (FP.l2d (lN (bnB wt U S0 H0 n)))) (FP.l2d (lN (bnA wt U S0 H0 n))))) (hdn : dnn (nrz (M.1 136) n wt U S0 H0)) : ∀ sz : Nat, Met l yX8_digest (.code yX8_digest cX8_digest 2 (some .long) :: TT) { frames := 8, cells := 0, slots := 0, locals := 175 } (va_Pc [.ref (ad 135)] (fun U9 => U9.heap.size = sz ∧ wB D cs ad (fA ad sz) M U9)) (va_Ql (fun r M2 => r = dgz (M.1 136) (M.1 139) (M.1 140) (M.1 135 1) n d len wt U S0 H0 U1 S H ∧ SD (mI M 135 7 (nI 0)) M2) (wB D cs ad (fA ad sz)) (fA ad sz)) 0 0 (fA ad sz) := by
  refine st_L (by decide) (Nat.le_of_ble_eq_true rfl) (fun κ C E => ?_)
  refine r_lv (lv2 := [(0, .ref (ad 135))]) [0] rfl ?_
  refine r_aload_n C dX8_digest_0 rfl 0 rfl ?_
  refine r_iconst C (nI 0) dX8_digest_1 (by decide) ?_
  refine r_put C (M2 := (mI M 135 7 (nI 0))) (Cn := RX8) (T := TX8) (N := 18) (id := 135) (by decide) inw_X8 tyX8_ok nmX8 rfl rfl 7 (by decide) rfl fl_X8_41 rfl rfl (rfl) (Nat.le_of_ble_eq_true rfl) (fun j hj => ⟨mI_ne _ hj, rfl⟩) rfl dX8_digest_2 ?_
  refine r_aload_n C dX8_digest_5 rfl 0 rfl ?_
  refine r_ldc2 C (2521) k_X8_224 dX8_digest_6 ?_
  refine r_put C (M2 := (mJ (mI M 135 7 (nI 0)) 135 17 (2521))) (Cn := RX8) (T := TX8) (N := 18) (id := 135) (by decide) inw_X8 tyX8_ok nmX8 rfl rfl 17 (by decide) rfl fl_X8_217 rfl rfl (rfl) (Nat.le_of_ble_eq_true rfl) (fun j hj => ⟨rfl, mJ_ne _ hj⟩) rfl dX8_digest_9 ?_
  refine r_iconst C (nI 0) dX8_digest_12 (by decide) ?_
  refine r_istore_n C [(1, .int (nI 0)), (0, .ref (ad 135))] dX8_digest_13 rfl (by decide) rfl ?_
  have L1 : ∀ (f_k1 k1 : Nat) (M9 : Mm), 12 + 1 ≤ k1 + f_k1 → k1 ≤ 12 → hI9 (mI M 135 7 (nI 0)) M9 (hsC cT (fun k => (ctz (M.1 136) (M.1 139) (M.1 135 1) n d k).toInt64) 2521 k1) → VV l D cs ad 2 κ 0 M9 14 [(1, .int (nI k1)), (0, .ref (ad 135))] [] := by
    intro f_k1
    induction f_k1 with
    | zero => intro k1 M9 hk1_k1 hk2_k1 hI_k1; exact absurd hk1_k1 (by omega)
    | succ f_k1 ih_k1 =>
      intro k1 M9 hk1_k1 hk2_k1 hI_k1
      refine r_iload_n C dX8_digest_14 rfl 0 rfl ?_
      refine r_bipush C (nI 12) dX8_digest_15 (by decide) ?_
      refine r_icmpN_ge C 36 dX8_digest_17 (by decide) (by omega) (by omega) (fun h17 => ?_) (fun h17 => ?_)
      ·
        have hk9 : 12 = k1 := by omega
        subst hk9
        refine r_iconst C (nI 0) dX8_digest_36 (by decide) ?_
        refine r_istore_n C [(1, .int (nI 0)), (0, .ref (ad 135))] dX8_digest_37 rfl (by decide) rfl ?_
        have L2 : ∀ (f_v v : Nat) (M9 : Mm), n + 1 ≤ v + f_v → v ≤ n → hI9 (mI M 135 7 (nI 0)) M9 (mvs (M.1 136) n (hsC cT (fun k => (ctz (M.1 136) (M.1 139) (M.1 135 1) n d k).toInt64) 2521 12) v) → VV l D cs ad 2 κ 0 M9 38 [(1, .int (nI v)), (0, .ref (ad 135))] [] := by
          intro f_v
          induction f_v with
          | zero => intro v M9 hk1_v hk2_v hI_v; exact absurd hk1_v (by omega)
          | succ f_v ih_v =>
            intro v M9 hk1_v hk2_v hI_v
            refine r_iload_n C dX8_digest_38 rfl 0 rfl ?_
            refine r_aload_n C dX8_digest_39 rfl 1 rfl ?_
            refine r_get C (Cn := RX8) (T := TX8) (N := 18) (id := 135) (by decide) inw_X8 rfl rfl 0 (by decide) rfl fl_X8_7 rfl dX8_digest_40 ?_
            refine r_iconst C (nI 0) dX8_digest_43 (by decide) ?_
            refine r_iald C (id := 136) (n := 55) (a := 0) (by decide) rfl (by decide) (by decide) dX8_digest_44 ?_
            refine r_topi (w := (M.1 136 0)) (SD.c hI_v.1 136 0 (by decide)) ?_
            refine r_topi hn ?_
            refine r_icmpN_ge C 59 dX8_digest_45 (by decide) (by omega) (by omega) (fun h45 => ?_) (fun h45 => ?_)
            ·
              have hk9 : n = v := by omega
              subst hk9
              refine r_iconst C (nI 0) dX8_digest_59 (by decide) ?_
              refine r_istore_n C [(1, .int (nI 0)), (0, .ref (ad 135))] dX8_digest_60 rfl (by decide) rfl ?_
              have L3 : ∀ (f_p p : Nat) (M9 : Mm), d + 1 ≤ p + f_p → p ≤ d → hI9 (mI M 135 7 (nI 0)) M9 (hsC cT (fun p => (M.1 136 (50 + p)).toInt64) (mvs (M.1 136) n (hsC cT (fun k => (ctz (M.1 136) (M.1 139) (M.1 135 1) n d k).toInt64) 2521 12) n) p) → VV l D cs ad 2 κ 0 M9 61 [(1, .int (nI p)), (0, .ref (ad 135))] [] := by
                intro f_p
                induction f_p with
                | zero => intro p M9 hk1_p hk2_p hI_p; exact absurd hk1_p (by omega)
                | succ f_p ih_p =>
                  intro p M9 hk1_p hk2_p hI_p
                  refine r_iload_n C dX8_digest_61 rfl 0 rfl ?_
                  refine r_aload_n C dX8_digest_62 rfl 1 rfl ?_
                  refine r_get C (Cn := RX8) (T := TX8) (N := 18) (id := 135) (by decide) inw_X8 rfl rfl 0 (by decide) rfl fl_X8_7 rfl dX8_digest_63 ?_
                  refine r_iconst C (nI 1) dX8_digest_66 (by decide) ?_
                  refine r_iald C (id := 136) (n := 55) (a := 1) (by decide) rfl (by decide) (by decide) dX8_digest_67 ?_
                  refine r_topi (w := (M.1 136 1)) (SD.c hI_p.1 136 1 (by decide)) ?_
                  refine r_topi hd ?_
                  refine r_icmpN_ge C 91 dX8_digest_68 (by decide) (by omega) (by omega) (fun h68 => ?_) (fun h68 => ?_)
                  ·
                    have hk9 : d = p := by omega
                    subst hk9
                    refine r_iconst C (nI 0) dX8_digest_91 (by decide) ?_
                    refine r_istore_n C [(1, .int (nI 0)), (0, .ref (ad 135))] dX8_digest_92 rfl (by decide) rfl ?_
                    have L4 : ∀ (f_p2 p2 : Nat) (M9 : Mm), 3 + 1 ≤ p2 + f_p2 → p2 ≤ 3 → hI9 (mI M 135 7 (nI 0)) M9 (hsC cT (fun p => bdz (M.1 136) n wt U S0 H0 p) (hsC cT (fun p => (M.1 136 (50 + p)).toInt64) (mvs (M.1 136) n (hsC cT (fun k => (ctz (M.1 136) (M.1 139) (M.1 135 1) n d k).toInt64) 2521 12) n) d) p2) → VV l D cs ad 2 κ 0 M9 93 [(1, .int (nI p2)), (0, .ref (ad 135))] [] := by
                      intro f_p2
                      induction f_p2 with
                      | zero => intro p2 M9 hk1_p2 hk2_p2 hI_p2; exact absurd hk1_p2 (by omega)
                      | succ f_p2 ih_p2 =>
                        intro p2 M9 hk1_p2 hk2_p2 hI_p2
                        refine r_iload_n C dX8_digest_93 rfl 0 rfl ?_
                        refine r_iconst C (nI 3) dX8_digest_94 (by decide) ?_
                        refine r_icmpN_ge C 113 dX8_digest_95 (by decide) (by omega) (by omega) (fun h95 => ?_) (fun h95 => ?_)
                        ·
                          have hk9 : 3 = p2 := by omega
                          subst hk9
                          refine r_iconst C (nI 0) dX8_digest_113 (by decide) ?_
                          refine r_istore_n C [(1, .int (nI 0)), (0, .ref (ad 135))] dX8_digest_114 rfl (by decide) rfl ?_
                          have L5 : ∀ (f_w2 w2 : Nat) (M9 : Mm), 3 + 1 ≤ w2 + f_w2 → w2 ≤ 3 → hI9 (mI M 135 7 (nI 0)) M9 (hsC cT (fun w => (rnz (M.1 136) n w).toInt64) (hsC cT (fun p => bdz (M.1 136) n wt U S0 H0 p) (hsC cT (fun p => (M.1 136 (50 + p)).toInt64) (mvs (M.1 136) n (hsC cT (fun k => (ctz (M.1 136) (M.1 139) (M.1 135 1) n d k).toInt64) 2521 12) n) d) 3) w2) → VV l D cs ad 2 κ 0 M9 115 [(1, .int (nI w2)), (0, .ref (ad 135))] [] := by
                            intro f_w2
                            induction f_w2 with
                            | zero => intro w2 M9 hk1_w2 hk2_w2 hI_w2; exact absurd hk1_w2 (by omega)
                            | succ f_w2 ih_w2 =>
                              intro w2 M9 hk1_w2 hk2_w2 hI_w2
                              refine r_iload_n C dX8_digest_115 rfl 0 rfl ?_
                              refine r_iconst C (nI 3) dX8_digest_116 (by decide) ?_
                              refine r_icmpN_ge C 136 dX8_digest_117 (by decide) (by omega) (by omega) (fun h117 => ?_) (fun h117 => ?_)
                              ·
                                have hk9 : 3 = w2 := by omega
                                subst hk9
                                refine r_iconst C (nI 0) dX8_digest_136 (by decide) ?_
                                refine r_istore_n C [(1, .int (nI 0)), (0, .ref (ad 135))] dX8_digest_137 rfl (by decide) rfl ?_
                                have L6 : ∀ (f_w w : Nat) (M9 : Mm), 14 + 1 ≤ w + f_w → w ≤ 14 → hI9 (mI M 135 7 (nI 0)) M9 (hsC cB (fun w => bhz (M.1 136) n d 3 1 wt U1 S H w) (hsC cT (fun w => (rnz (M.1 136) n w).toInt64) (hsC cT (fun p => bdz (M.1 136) n wt U S0 H0 p) (hsC cT (fun p => (M.1 136 (50 + p)).toInt64) (mvs (M.1 136) n (hsC cT (fun k => (ctz (M.1 136) (M.1 139) (M.1 135 1) n d k).toInt64) 2521 12) n) d) 3) 3) w) → VV l D cs ad 2 κ 0 M9 138 [(1, .int (nI w)), (0, .ref (ad 135))] [] := by
                                  intro f_w
                                  induction f_w with
                                  | zero => intro w M9 hk1_w hk2_w hI_w; exact absurd hk1_w (by omega)
                                  | succ f_w ih_w =>
                                    intro w M9 hk1_w hk2_w hI_w
                                    refine r_iload_n C dX8_digest_138 rfl 0 rfl ?_
                                    refine r_bipush C (nI 14) dX8_digest_139 (by decide) ?_
                                    refine r_icmpN_ge C 171 dX8_digest_141 (by decide) (by omega) (by omega) (fun h141 => ?_) (fun h141 => ?_)
                                    ·
                                      have hk9 : 14 = w := by omega
                                      subst hk9
                                      refine r_aload_n C dX8_digest_171 rfl 1 rfl ?_
                                      refine r_aload_n C dX8_digest_172 rfl 1 rfl ?_
                                      refine r_callV_d (nA := 0) C (Nat.le_of_ble_eq_true rfl) [] (c_X8_near l D cs ad M9  n ((SD.c hI_w.1 136 0 (by decide)).trans hn) hn8 wt U S0 H0 (by rw [SD.r hI_w.1 136 (by decide)]; exact hBr) (by rw [SD.r hI_w.1 136 (by decide)]; exact hnn)) (tt_V ml_X8_211 im_X8_near se_X8_near in_X8 co_X8_near) ⟨rfl, rfl⟩ ⟨rfl, by decide, by decide, by decide⟩ ⟨Nat.le_of_ble_eq_true rfl, Nat.le_of_ble_eq_true rfl⟩ (by decide) rfl rfl rfl rfl rfl (Nat.le_of_ble_eq_true rfl) dX8_digest_173 (fun ru1 Mu1 qu1 => ?_)
                                      obtain ⟨rfl, hSu1⟩ := qu1
                                      refine r_topd (w := nrz (M.1 136) n wt U S0 H0) (by rw [SD.r hI_w.1 136 (by decide)]; rfl) ?_
                                      refine r_pcallS2_l (nA := 1) C (Nat.le_of_ble_eq_true rfl) [.double (nrz (M.1 136) n wt U S0 H0)] (c_dlb l D cs ad Mu1 (nrz (M.1 136) n wt U S0 H0) hdn) (tt_S2 ml_X8_230 st_Jxe99ae_doubleToLongBits_ccdee in_Jxe99ae co_Jxe99ae_doubleToLongBits_ccdee) ⟨rfl, rfl⟩ ⟨by decide, by decide, by decide⟩ ⟨Nat.le_of_ble_eq_true rfl, Nat.le_of_ble_eq_true rfl⟩ rfl rfl (Nat.le_of_ble_eq_true rfl) dX8_digest_176 ?_
                                      refine r_pcallV_v (nA := 1) C (Nat.le_of_ble_eq_true rfl) [.long ((nrz (M.1 136) n wt U S0 H0).toInt64)] (c_X8_mix l D cs ad Mu1 ((nrz (M.1 136) n wt U S0 H0).toInt64) ) (tt_V ml_X8_220 im_X8_mix se_X8_mix in_X8 co_X8_mix) ⟨rfl, rfl⟩ ⟨rfl, by decide, by decide, by decide⟩ ⟨Nat.le_of_ble_eq_true rfl, Nat.le_of_ble_eq_true rfl⟩ (by decide) rfl rfl rfl rfl rfl (Nat.le_of_ble_eq_true rfl) dX8_digest_179 ?_
                                      have hA : hI9 (mI M 135 7 (nI 0)) (mJ Mu1 135 17 (31 * Mu1.2 135 17 + ((nrz (M.1 136) n wt U S0 H0).toInt64))) (31 * (hsC cB (fun w => bhz (M.1 136) n d 3 1 wt U1 S H w) (hsC cT (fun w => (rnz (M.1 136) n w).toInt64) (hsC cT (fun p => bdz (M.1 136) n wt U S0 H0 p) (hsC cT (fun p => (M.1 136 (50 + p)).toInt64) (mvs (M.1 136) n (hsC cT (fun k => (ctz (M.1 136) (M.1 139) (M.1 135 1) n d k).toInt64) 2521 12) n) d) 3) 3) 14) + (nrz (M.1 136) n wt U S0 H0).toInt64) := hI9.mix hI_w hSu1 _
                                      obtain ⟨MA, hMA⟩ : ∃ x, x = (mJ Mu1 135 17 (31 * Mu1.2 135 17 + ((nrz (M.1 136) n wt U S0 H0).toInt64))) := ⟨_, rfl⟩
                                      rw [← hMA] at hA
                                      refine r_mem (M2 := MA) (hMA.symm) ?_
                                      refine r_aload_n C dX8_digest_182 rfl 1 rfl ?_
                                      refine r_aload_n C dX8_digest_183 rfl 1 rfl ?_
                                      refine r_get C (Cn := RX8) (T := TX8) (N := 18) (id := 135) (by decide) inw_X8 rfl rfl 5 (by decide) rfl fl_X8_168 rfl dX8_digest_184 ?_
                                      refine r_topi (w := (M.1 135 5)) (hA.1.2.1 5 (by decide)) ?_
                                      refine r_topi hl ?_
                                      refine r_i2l C dX8_digest_187 ?_
                                      refine r_topl (w := lN len) (nI_l (by omega)) ?_
                                      refine r_pcallV_v (nA := 1) C (Nat.le_of_ble_eq_true rfl) [.long (lN len)] (c_X8_mix l D cs ad MA (lN len) ) (tt_V ml_X8_220 im_X8_mix se_X8_mix in_X8 co_X8_mix) ⟨rfl, rfl⟩ ⟨rfl, by decide, by decide, by decide⟩ ⟨Nat.le_of_ble_eq_true rfl, Nat.le_of_ble_eq_true rfl⟩ (by decide) rfl rfl rfl rfl rfl (Nat.le_of_ble_eq_true rfl) dX8_digest_188 ?_
                                      have hC0 : hI9 (mI M 135 7 (nI 0)) (mJ MA 135 17 (31 * MA.2 135 17 + (lN len))) (31 * (31 * (hsC cB (fun w => bhz (M.1 136) n d 3 1 wt U1 S H w) (hsC cT (fun w => (rnz (M.1 136) n w).toInt64) (hsC cT (fun p => bdz (M.1 136) n wt U S0 H0 p) (hsC cT (fun p => (M.1 136 (50 + p)).toInt64) (mvs (M.1 136) n (hsC cT (fun k => (ctz (M.1 136) (M.1 139) (M.1 135 1) n d k).toInt64) 2521 12) n) d) 3) 3) 14) + (nrz (M.1 136) n wt U S0 H0).toInt64) + lN len) := hI9.mix hA (SC.rf MA) _
                                      refine r_iconst C (nI 0) dX8_digest_191 (by decide) ?_
                                      refine r_istore_n C [(1, .int (nI 0)), (0, .ref (ad 135))] dX8_digest_192 rfl (by decide) rfl ?_
                                      have L7 : ∀ (f_k2 k2 : Nat) (M9 : Mm), len + 1 ≤ k2 + f_k2 → k2 ≤ len → hI9 (mI M 135 7 (nI 0)) M9 (hsC cT (fun k => (M.1 140 k).toInt64) (31 * (31 * (hsC cB (fun w => bhz (M.1 136) n d 3 1 wt U1 S H w) (hsC cT (fun w => (rnz (M.1 136) n w).toInt64) (hsC cT (fun p => bdz (M.1 136) n wt U S0 H0 p) (hsC cT (fun p => (M.1 136 (50 + p)).toInt64) (mvs (M.1 136) n (hsC cT (fun k => (ctz (M.1 136) (M.1 139) (M.1 135 1) n d k).toInt64) 2521 12) n) d) 3) 3) 14) + (nrz (M.1 136) n wt U S0 H0).toInt64) + lN len) k2) → VV l D cs ad 2 κ 0 M9 193 [(1, .int (nI k2)), (0, .ref (ad 135))] [] := by
                                        intro f_k2
                                        induction f_k2 with
                                        | zero => intro k2 M9 hk1_k2 hk2_k2 hI_k2; exact absurd hk1_k2 (by omega)
                                        | succ f_k2 ih_k2 =>
                                          intro k2 M9 hk1_k2 hk2_k2 hI_k2
                                          refine r_iload_n C dX8_digest_193 rfl 0 rfl ?_
                                          refine r_aload_n C dX8_digest_194 rfl 1 rfl ?_
                                          refine r_get C (Cn := RX8) (T := TX8) (N := 18) (id := 135) (by decide) inw_X8 rfl rfl 5 (by decide) rfl fl_X8_168 rfl dX8_digest_195 ?_
                                          refine r_topi (w := (M.1 135 5)) (hI_k2.1.2.1 5 (by decide)) ?_
                                          refine r_topi hl ?_
                                          refine r_icmpN_ge C 218 dX8_digest_198 (by decide) (by omega) (by omega) (fun h198 => ?_) (fun h198 => ?_)
                                          ·
                                            have hk9 : len = k2 := by omega
                                            subst hk9
                                            refine r_aload_n C dX8_digest_218 rfl 1 rfl ?_
                                            refine r_get C (Cn := RX8) (T := TX8) (N := 18) (id := 135) (by decide) inw_X8 rfl rfl 17 (by decide) rfl fl_X8_217 rfl dX8_digest_219 ?_
                                            exact E 0 _ _ _ _ (Nat.le_of_ble_eq_true rfl) dX8_digest_222 (⟨hI_k2.2, hI_k2.1⟩)
                                          ·
                                            refine r_aload_n C dX8_digest_201 rfl 1 rfl ?_
                                            refine r_aload_n C dX8_digest_202 rfl 1 rfl ?_
                                            refine r_get C (Cn := RX8) (T := TX8) (N := 18) (id := 135) (by decide) inw_X8 rfl rfl 6 (by decide) rfl fl_X8_22 rfl dX8_digest_203 ?_
                                            refine r_iload_n C dX8_digest_206 rfl 0 rfl ?_
                                            refine r_iald C (id := 140) (n := 60) (a := k2) (by decide) rfl (by omega) (by decide) dX8_digest_207 ?_
                                            refine r_topi (w := (M.1 140 k2)) (SD.c hI_k2.1 140 k2 (by decide)) ?_
                                            refine r_i2l C dX8_digest_208 ?_
                                            refine r_pcallV_v (nA := 1) C (Nat.le_of_ble_eq_true rfl) [.long ((M.1 140 k2).toInt64)] (c_X8_mix l D cs ad M9 ((M.1 140 k2).toInt64) ) (tt_V ml_X8_220 im_X8_mix se_X8_mix in_X8 co_X8_mix) ⟨rfl, rfl⟩ ⟨rfl, by decide, by decide, by decide⟩ ⟨Nat.le_of_ble_eq_true rfl, Nat.le_of_ble_eq_true rfl⟩ (by decide) rfl rfl rfl rfl rfl (Nat.le_of_ble_eq_true rfl) dX8_digest_209 ?_
                                            refine r_iinc C (nI (k2 + 1)) [(1, .int (nI (k2 + 1))), (0, .ref (ad 135))] dX8_digest_212 (j := 0) rfl (inc_n k2 1) (by decide) rfl ?_
                                            refine r_goto C 193 dX8_digest_215 (by decide) ?_
                                            refine r_lv (lv2 := [(1, .int (nI (k2 + 1))), (0, .ref (ad 135))]) [0, 1] rfl ?_
                                            have hJ : hI9 (mI M 135 7 (nI 0)) (mJ M9 135 17 (31 * M9.2 135 17 + ((M.1 140 k2).toInt64))) (hsC cT (fun k => (M.1 140 k).toInt64) (31 * (31 * (hsC cB (fun w => bhz (M.1 136) n d 3 1 wt U1 S H w) (hsC cT (fun w => (rnz (M.1 136) n w).toInt64) (hsC cT (fun p => bdz (M.1 136) n wt U S0 H0 p) (hsC cT (fun p => (M.1 136 (50 + p)).toInt64) (mvs (M.1 136) n (hsC cT (fun k => (ctz (M.1 136) (M.1 139) (M.1 135 1) n d k).toInt64) 2521 12) n) d) 3) 3) 14) + (nrz (M.1 136) n wt U S0 H0).toInt64) + lN len) (k2 + 1)) := by have e := hI9.mix hI_k2 (SC.rf M9) ((M.1 140 k2).toInt64); exact e
                                            exact ih_k2 (k2 + 1) _ (by omega) (by omega) hJ
                                      refine r_lv (lv2 := [(1, .int (nI 0)), (0, .ref (ad 135))]) [0, 1] rfl ?_
                                      exact L7 (len + 1) 0 _ (by omega) (by omega) hC0
                                    ·
                                      refine r_iload_n C dX8_digest_144 rfl 0 rfl ?_
                                      refine r_iconst C (nI 2) dX8_digest_145 (by decide) ?_
                                      refine r_icmpN_lt C 155 dX8_digest_146 (by decide) (by omega) (by omega) (fun h146 => ?_) (fun h146 => ?_)
                                      ·
                                        refine r_aload_n C dX8_digest_155 rfl 1 rfl ?_
                                        refine r_aload_n C dX8_digest_156 rfl 1 rfl ?_
                                        refine r_iconst C (nI 1) dX8_digest_157 (by decide) ?_
                                        refine r_iload_n C dX8_digest_158 rfl 0 rfl ?_
                                        refine r_callV_l (nA := 2) C (Nat.le_of_ble_eq_true rfl) [.int (nI 1), .int (nI w)] (c_X8_bestNow l D cs ad M9 w n ((SD.c hI_w.1 136 0 (by decide)).trans hn) hn8 d ((SD.c hI_w.1 136 1 (by decide)).trans hd) hd4 1 3 rfl (by decide) (by decide) wt U1 S H (by rw [SD.r hI_w.1 136 (by decide)]; exact hBB) (by omega)) (tt_V ml_X8_198 im_X8_bestNow se_X8_bestNow in_X8 co_X8_bestNow) ⟨rfl, rfl⟩ ⟨rfl, by decide, by decide, by decide⟩ ⟨Nat.le_of_ble_eq_true rfl, Nat.le_of_ble_eq_true rfl⟩ (by decide) rfl rfl rfl rfl rfl (Nat.le_of_ble_eq_true rfl) dX8_digest_159 (fun ru2 Mu2 qu2 => ?_)
                                        obtain ⟨rfl, hSu2⟩ := qu2
                                        refine r_topl (w := bhz (M.1 136) n d 3 1 wt U1 S H w) (by rw [SD.r hI_w.1 136 (by decide)]; rfl) ?_
                                        refine r_pcallV_v (nA := 1) C (Nat.le_of_ble_eq_true rfl) [.long (bhz (M.1 136) n d 3 1 wt U1 S H w)] (c_X8_mix l D cs ad Mu2 (bhz (M.1 136) n d 3 1 wt U1 S H w) ) (tt_V ml_X8_220 im_X8_mix se_X8_mix in_X8 co_X8_mix) ⟨rfl, rfl⟩ ⟨rfl, by decide, by decide, by decide⟩ ⟨Nat.le_of_ble_eq_true rfl, Nat.le_of_ble_eq_true rfl⟩ (by decide) rfl rfl rfl rfl rfl (Nat.le_of_ble_eq_true rfl) dX8_digest_162 ?_
                                        refine r_iinc C (nI (w + 1)) [(1, .int (nI (w + 1))), (0, .ref (ad 135))] dX8_digest_165 (j := 0) rfl (inc_n w 1) (by decide) rfl ?_
                                        refine r_goto C 138 dX8_digest_168 (by decide) ?_
                                        refine r_lv (lv2 := [(1, .int (nI (w + 1))), (0, .ref (ad 135))]) [0, 1] rfl ?_
                                        have hJ : hI9 (mI M 135 7 (nI 0)) (mJ Mu2 135 17 (31 * Mu2.2 135 17 + (bhz (M.1 136) n d 3 1 wt U1 S H w))) (hsC cB (fun w => bhz (M.1 136) n d 3 1 wt U1 S H w) (hsC cT (fun w => (rnz (M.1 136) n w).toInt64) (hsC cT (fun p => bdz (M.1 136) n wt U S0 H0 p) (hsC cT (fun p => (M.1 136 (50 + p)).toInt64) (mvs (M.1 136) n (hsC cT (fun k => (ctz (M.1 136) (M.1 139) (M.1 135 1) n d k).toInt64) 2521 12) n) d) 3) 3) (w + 1)) := by have e := hI9.mix hI_w hSu2 (bhz (M.1 136) n d 3 1 wt U1 S H w); unfold hsC; rw [if_pos (by unfold cB; simp only [Bool.or_eq_true, decide_eq_true_eq]; omega)]; exact e
                                        exact ih_w (w + 1) _ (by omega) (by omega) hJ
                                      ·
                                        refine r_iload_n C dX8_digest_149 rfl 0 rfl ?_
                                        refine r_bipush C (nI 9) dX8_digest_150 (by decide) ?_
                                        refine r_icmpN_le C 165 dX8_digest_152 (by decide) (by omega) (by omega) (fun h152 => ?_) (fun h152 => ?_)
                                        ·
                                          refine r_iinc C (nI (w + 1)) [(1, .int (nI (w + 1))), (0, .ref (ad 135))] dX8_digest_165 (j := 0) rfl (inc_n w 1) (by decide) rfl ?_
                                          refine r_goto C 138 dX8_digest_168 (by decide) ?_
                                          refine r_lv (lv2 := [(1, .int (nI (w + 1))), (0, .ref (ad 135))]) [0, 1] rfl ?_
                                          have hJ : hI9 (mI M 135 7 (nI 0)) M9 (hsC cB (fun w => bhz (M.1 136) n d 3 1 wt U1 S H w) (hsC cT (fun w => (rnz (M.1 136) n w).toInt64) (hsC cT (fun p => bdz (M.1 136) n wt U S0 H0 p) (hsC cT (fun p => (M.1 136 (50 + p)).toInt64) (mvs (M.1 136) n (hsC cT (fun k => (ctz (M.1 136) (M.1 139) (M.1 135 1) n d k).toInt64) 2521 12) n) d) 3) 3) (w + 1)) := by unfold hsC; rw [if_neg (by unfold cB; simp only [Bool.or_eq_true, decide_eq_true_eq]; omega)]; exact hI_w
                                          exact ih_w (w + 1) _ (by omega) (by omega) hJ
                                        ·
                                          refine r_aload_n C dX8_digest_155 rfl 1 rfl ?_
                                          refine r_aload_n C dX8_digest_156 rfl 1 rfl ?_
                                          refine r_iconst C (nI 1) dX8_digest_157 (by decide) ?_
                                          refine r_iload_n C dX8_digest_158 rfl 0 rfl ?_
                                          refine r_callV_l (nA := 2) C (Nat.le_of_ble_eq_true rfl) [.int (nI 1), .int (nI w)] (c_X8_bestNow l D cs ad M9 w n ((SD.c hI_w.1 136 0 (by decide)).trans hn) hn8 d ((SD.c hI_w.1 136 1 (by decide)).trans hd) hd4 1 3 rfl (by decide) (by decide) wt U1 S H (by rw [SD.r hI_w.1 136 (by decide)]; exact hBB) (by omega)) (tt_V ml_X8_198 im_X8_bestNow se_X8_bestNow in_X8 co_X8_bestNow) ⟨rfl, rfl⟩ ⟨rfl, by decide, by decide, by decide⟩ ⟨Nat.le_of_ble_eq_true rfl, Nat.le_of_ble_eq_true rfl⟩ (by decide) rfl rfl rfl rfl rfl (Nat.le_of_ble_eq_true rfl) dX8_digest_159 (fun ru3 Mu3 qu3 => ?_)
                                          obtain ⟨rfl, hSu3⟩ := qu3
                                          refine r_topl (w := bhz (M.1 136) n d 3 1 wt U1 S H w) (by rw [SD.r hI_w.1 136 (by decide)]; rfl) ?_
                                          refine r_pcallV_v (nA := 1) C (Nat.le_of_ble_eq_true rfl) [.long (bhz (M.1 136) n d 3 1 wt U1 S H w)] (c_X8_mix l D cs ad Mu3 (bhz (M.1 136) n d 3 1 wt U1 S H w) ) (tt_V ml_X8_220 im_X8_mix se_X8_mix in_X8 co_X8_mix) ⟨rfl, rfl⟩ ⟨rfl, by decide, by decide, by decide⟩ ⟨Nat.le_of_ble_eq_true rfl, Nat.le_of_ble_eq_true rfl⟩ (by decide) rfl rfl rfl rfl rfl (Nat.le_of_ble_eq_true rfl) dX8_digest_162 ?_
                                          refine r_iinc C (nI (w + 1)) [(1, .int (nI (w + 1))), (0, .ref (ad 135))] dX8_digest_165 (j := 0) rfl (inc_n w 1) (by decide) rfl ?_
                                          refine r_goto C 138 dX8_digest_168 (by decide) ?_
                                          refine r_lv (lv2 := [(1, .int (nI (w + 1))), (0, .ref (ad 135))]) [0, 1] rfl ?_
                                          have hJ : hI9 (mI M 135 7 (nI 0)) (mJ Mu3 135 17 (31 * Mu3.2 135 17 + (bhz (M.1 136) n d 3 1 wt U1 S H w))) (hsC cB (fun w => bhz (M.1 136) n d 3 1 wt U1 S H w) (hsC cT (fun w => (rnz (M.1 136) n w).toInt64) (hsC cT (fun p => bdz (M.1 136) n wt U S0 H0 p) (hsC cT (fun p => (M.1 136 (50 + p)).toInt64) (mvs (M.1 136) n (hsC cT (fun k => (ctz (M.1 136) (M.1 139) (M.1 135 1) n d k).toInt64) 2521 12) n) d) 3) 3) (w + 1)) := by have e := hI9.mix hI_w hSu3 (bhz (M.1 136) n d 3 1 wt U1 S H w); unfold hsC; rw [if_pos (by unfold cB; simp only [Bool.or_eq_true, decide_eq_true_eq]; omega)]; exact e
                                          exact ih_w (w + 1) _ (by omega) (by omega) hJ
                                refine r_lv (lv2 := [(1, .int (nI 0)), (0, .ref (ad 135))]) [0, 1] rfl ?_
                                exact L6 (14 + 1) 0 _ (by omega) (by omega) hI_w2
                              ·
                                refine r_aload_n C dX8_digest_120 rfl 1 rfl ?_
                                refine r_aload_n C dX8_digest_121 rfl 1 rfl ?_
                                refine r_iload_n C dX8_digest_122 rfl 0 rfl ?_
                                refine r_pcallV_i (nA := 1) C (Nat.le_of_ble_eq_true rfl) [.int (nI w2)] (c_X8_reasonNow l D cs ad M9 w2 (by omega) n ((SD.c hI_w2.1 136 0 (by decide)).trans hn) hn8) (tt_V ml_X8_195 im_X8_reasonNow se_X8_reasonNow in_X8 co_X8_reasonNow) ⟨rfl, rfl⟩ ⟨rfl, by decide, by decide, by decide⟩ ⟨Nat.le_of_ble_eq_true rfl, Nat.le_of_ble_eq_true rfl⟩ (by decide) rfl rfl rfl rfl rfl (Nat.le_of_ble_eq_true rfl) dX8_digest_123 ?_
                                refine r_topi (w := (rnz (M9.1 136) n w2)) rfl ?_
                                refine r_topi (w := (rnz (M.1 136) n w2)) (by rw [SD.r hI_w2.1 136 (by decide)]; rfl) ?_
                                refine r_i2l C dX8_digest_126 ?_
                                refine r_pcallV_v (nA := 1) C (Nat.le_of_ble_eq_true rfl) [.long ((rnz (M.1 136) n w2).toInt64)] (c_X8_mix l D cs ad M9 ((rnz (M.1 136) n w2).toInt64) ) (tt_V ml_X8_220 im_X8_mix se_X8_mix in_X8 co_X8_mix) ⟨rfl, rfl⟩ ⟨rfl, by decide, by decide, by decide⟩ ⟨Nat.le_of_ble_eq_true rfl, Nat.le_of_ble_eq_true rfl⟩ (by decide) rfl rfl rfl rfl rfl (Nat.le_of_ble_eq_true rfl) dX8_digest_127 ?_
                                refine r_iinc C (nI (w2 + 1)) [(1, .int (nI (w2 + 1))), (0, .ref (ad 135))] dX8_digest_130 (j := 0) rfl (inc_n w2 1) (by decide) rfl ?_
                                refine r_goto C 115 dX8_digest_133 (by decide) ?_
                                refine r_lv (lv2 := [(1, .int (nI (w2 + 1))), (0, .ref (ad 135))]) [0, 1] rfl ?_
                                have hJ : hI9 (mI M 135 7 (nI 0)) (mJ M9 135 17 (31 * M9.2 135 17 + ((rnz (M.1 136) n w2).toInt64))) (hsC cT (fun w => (rnz (M.1 136) n w).toInt64) (hsC cT (fun p => bdz (M.1 136) n wt U S0 H0 p) (hsC cT (fun p => (M.1 136 (50 + p)).toInt64) (mvs (M.1 136) n (hsC cT (fun k => (ctz (M.1 136) (M.1 139) (M.1 135 1) n d k).toInt64) 2521 12) n) d) 3) (w2 + 1)) := by have e := hI9.mix hI_w2 (SC.rf M9) ((rnz (M.1 136) n w2).toInt64); exact e
                                exact ih_w2 (w2 + 1) _ (by omega) (by omega) hJ
                          refine r_lv (lv2 := [(1, .int (nI 0)), (0, .ref (ad 135))]) [0, 1] rfl ?_
                          exact L5 (3 + 1) 0 _ (by omega) (by omega) hI_p2
                        ·
                          refine r_aload_n C dX8_digest_98 rfl 1 rfl ?_
                          refine r_aload_n C dX8_digest_99 rfl 1 rfl ?_
                          refine r_iload_n C dX8_digest_100 rfl 0 rfl ?_
                          refine r_callV_l (nA := 1) C (Nat.le_of_ble_eq_true rfl) [.int (nI p2)] (c_X8_boundNow l D cs ad M9 p2 (by omega) n ((SD.c hI_p2.1 136 0 (by decide)).trans hn) hn8 wt U S0 H0 (by rw [SD.r hI_p2.1 136 (by decide)]; exact hBr)) (tt_V ml_X8_191 im_X8_boundNow se_X8_boundNow in_X8 co_X8_boundNow) ⟨rfl, rfl⟩ ⟨rfl, by decide, by decide, by decide⟩ ⟨Nat.le_of_ble_eq_true rfl, Nat.le_of_ble_eq_true rfl⟩ (by decide) rfl rfl rfl rfl rfl (Nat.le_of_ble_eq_true rfl) dX8_digest_101 (fun ru4 Mu4 qu4 => ?_)
                          obtain ⟨rfl, hSu4⟩ := qu4
                          refine r_topl (w := bdz (M.1 136) n wt U S0 H0 p2) (by rw [SD.r hI_p2.1 136 (by decide)]; rfl) ?_
                          refine r_pcallV_v (nA := 1) C (Nat.le_of_ble_eq_true rfl) [.long (bdz (M.1 136) n wt U S0 H0 p2)] (c_X8_mix l D cs ad Mu4 (bdz (M.1 136) n wt U S0 H0 p2) ) (tt_V ml_X8_220 im_X8_mix se_X8_mix in_X8 co_X8_mix) ⟨rfl, rfl⟩ ⟨rfl, by decide, by decide, by decide⟩ ⟨Nat.le_of_ble_eq_true rfl, Nat.le_of_ble_eq_true rfl⟩ (by decide) rfl rfl rfl rfl rfl (Nat.le_of_ble_eq_true rfl) dX8_digest_104 ?_
                          refine r_iinc C (nI (p2 + 1)) [(1, .int (nI (p2 + 1))), (0, .ref (ad 135))] dX8_digest_107 (j := 0) rfl (inc_n p2 1) (by decide) rfl ?_
                          refine r_goto C 93 dX8_digest_110 (by decide) ?_
                          refine r_lv (lv2 := [(1, .int (nI (p2 + 1))), (0, .ref (ad 135))]) [0, 1] rfl ?_
                          have hJ : hI9 (mI M 135 7 (nI 0)) (mJ Mu4 135 17 (31 * Mu4.2 135 17 + (bdz (M.1 136) n wt U S0 H0 p2))) (hsC cT (fun p => bdz (M.1 136) n wt U S0 H0 p) (hsC cT (fun p => (M.1 136 (50 + p)).toInt64) (mvs (M.1 136) n (hsC cT (fun k => (ctz (M.1 136) (M.1 139) (M.1 135 1) n d k).toInt64) 2521 12) n) d) (p2 + 1)) := by have e := hI9.mix hI_p2 hSu4 (bdz (M.1 136) n wt U S0 H0 p2); exact e
                          exact ih_p2 (p2 + 1) _ (by omega) (by omega) hJ
                    refine r_lv (lv2 := [(1, .int (nI 0)), (0, .ref (ad 135))]) [0, 1] rfl ?_
                    exact L4 (3 + 1) 0 _ (by omega) (by omega) hI_p
                  ·
                    refine r_aload_n C dX8_digest_71 rfl 1 rfl ?_
                    refine r_aload_n C dX8_digest_72 rfl 1 rfl ?_
                    refine r_get C (Cn := RX8) (T := TX8) (N := 18) (id := 135) (by decide) inw_X8 rfl rfl 0 (by decide) rfl fl_X8_7 rfl dX8_digest_73 ?_
                    refine r_bipush C (nI 50) dX8_digest_76 (by decide) ?_
                    refine r_iload_n C dX8_digest_78 rfl 0 rfl ?_
                    refine r_iadd C dX8_digest_79 ?_
                    refine r_topi (nI_add 50 p) ?_
                    refine r_iald C (id := 136) (n := 55) (a := 50 + p) (by decide) rfl (by omega) (by decide) dX8_digest_80 ?_
                    refine r_topi (w := (M.1 136 (50 + p))) (SD.c hI_p.1 136 (50 + p) (by decide)) ?_
                    refine r_i2l C dX8_digest_81 ?_
                    refine r_pcallV_v (nA := 1) C (Nat.le_of_ble_eq_true rfl) [.long ((M.1 136 (50 + p)).toInt64)] (c_X8_mix l D cs ad M9 ((M.1 136 (50 + p)).toInt64) ) (tt_V ml_X8_220 im_X8_mix se_X8_mix in_X8 co_X8_mix) ⟨rfl, rfl⟩ ⟨rfl, by decide, by decide, by decide⟩ ⟨Nat.le_of_ble_eq_true rfl, Nat.le_of_ble_eq_true rfl⟩ (by decide) rfl rfl rfl rfl rfl (Nat.le_of_ble_eq_true rfl) dX8_digest_82 ?_
                    refine r_iinc C (nI (p + 1)) [(1, .int (nI (p + 1))), (0, .ref (ad 135))] dX8_digest_85 (j := 0) rfl (inc_n p 1) (by decide) rfl ?_
                    refine r_goto C 61 dX8_digest_88 (by decide) ?_
                    refine r_lv (lv2 := [(1, .int (nI (p + 1))), (0, .ref (ad 135))]) [0, 1] rfl ?_
                    have hJ : hI9 (mI M 135 7 (nI 0)) (mJ M9 135 17 (31 * M9.2 135 17 + ((M.1 136 (50 + p)).toInt64))) (hsC cT (fun p => (M.1 136 (50 + p)).toInt64) (mvs (M.1 136) n (hsC cT (fun k => (ctz (M.1 136) (M.1 139) (M.1 135 1) n d k).toInt64) 2521 12) n) (p + 1)) := by have e := hI9.mix hI_p (SC.rf M9) ((M.1 136 (50 + p)).toInt64); exact e
                    exact ih_p (p + 1) _ (by omega) (by omega) hJ
              refine r_lv (lv2 := [(1, .int (nI 0)), (0, .ref (ad 135))]) [0, 1] rfl ?_
              exact L3 (d + 1) 0 _ (by omega) (by omega) hI_v
            ·
              refine r_aload_n C dX8_digest_48 rfl 1 rfl ?_
              refine r_iload_n C dX8_digest_49 rfl 0 rfl ?_
              refine r_callV_v (nA := 1) C (Nat.le_of_ble_eq_true rfl) [.int (nI v)] (c_X8_mixVertex l D cs ad M9 v n ((SD.c hI_v.1 136 0 (by decide)).trans hn) hn8 hn1 (by rw [SD.r hI_v.1 136 (by decide)]; exact hex) (by omega)) (tt_V ml_X8_226 im_X8_mixVertex se_X8_mixVertex in_X8 co_X8_mixVertex) ⟨rfl, rfl⟩ ⟨rfl, by decide, by decide, by decide⟩ ⟨Nat.le_of_ble_eq_true rfl, Nat.le_of_ble_eq_true rfl⟩ (by decide) rfl rfl rfl rfl rfl (Nat.le_of_ble_eq_true rfl) dX8_digest_50 (fun Mu5 qu5 => ?_)
              have hJ : hI9 (mI M 135 7 (nI 0)) Mu5 (mvs (M.1 136) n (hsC cT (fun k => (ctz (M.1 136) (M.1 139) (M.1 135 1) n d k).toInt64) 2521 12) (v + 1)) := ⟨hI_v.1.tr qu5.1, by rw [qu5.2, SD.r hI_v.1 136 (by decide), hI_v.2]; rfl⟩
              refine r_iinc C (nI (v + 1)) [(1, .int (nI (v + 1))), (0, .ref (ad 135))] dX8_digest_53 (j := 0) rfl (inc_n v 1) (by decide) rfl ?_
              refine r_goto C 38 dX8_digest_56 (by decide) ?_
              refine r_lv (lv2 := [(1, .int (nI (v + 1))), (0, .ref (ad 135))]) [0, 1] rfl ?_
              exact ih_v (v + 1) _ (by omega) (by omega) hJ
        refine r_lv (lv2 := [(1, .int (nI 0)), (0, .ref (ad 135))]) [0, 1] rfl ?_
        exact L2 (n + 1) 0 _ (by omega) (by omega) hI_k1
      ·
        refine r_aload_n C dX8_digest_20 rfl 1 rfl ?_
        refine r_aload_n C dX8_digest_21 rfl 1 rfl ?_
        refine r_iload_n C dX8_digest_22 rfl 0 rfl ?_
        refine r_callV_i (nA := 1) C (Nat.le_of_ble_eq_true rfl) [.int (nI k1)] (c_X8_counted l D cs ad M9 k1 n ((SD.c hI_k1.1 136 0 (by decide)).trans hn) hn8 d ((SD.c hI_k1.1 136 1 (by decide)).trans hd) hd4 hn1 (by rw [SD.r hI_k1.1 136 (by decide)]; exact hex) (by omega)) (tt_V ml_X8_208 im_X8_counted se_X8_counted in_X8 co_X8_counted) ⟨rfl, rfl⟩ ⟨rfl, by decide, by decide, by decide⟩ ⟨Nat.le_of_ble_eq_true rfl, Nat.le_of_ble_eq_true rfl⟩ (by decide) rfl rfl rfl rfl rfl (Nat.le_of_ble_eq_true rfl) dX8_digest_23 (fun ru6 Mu6 qu6 => ?_)
        obtain ⟨rfl, hSu6⟩ := qu6
        refine r_topi (w := (ctz (M.1 136) (M.1 139) (M.1 135 1) n d k1)) (by rw [SD.r hI_k1.1 136 (by decide), SD.r hI_k1.1 139 (by decide), hI_k1.1.2.1 1 (by decide)]; rfl) ?_
        refine r_i2l C dX8_digest_26 ?_
        refine r_pcallV_v (nA := 1) C (Nat.le_of_ble_eq_true rfl) [.long ((ctz (M.1 136) (M.1 139) (M.1 135 1) n d k1).toInt64)] (c_X8_mix l D cs ad Mu6 ((ctz (M.1 136) (M.1 139) (M.1 135 1) n d k1).toInt64) ) (tt_V ml_X8_220 im_X8_mix se_X8_mix in_X8 co_X8_mix) ⟨rfl, rfl⟩ ⟨rfl, by decide, by decide, by decide⟩ ⟨Nat.le_of_ble_eq_true rfl, Nat.le_of_ble_eq_true rfl⟩ (by decide) rfl rfl rfl rfl rfl (Nat.le_of_ble_eq_true rfl) dX8_digest_27 ?_
        refine r_iinc C (nI (k1 + 1)) [(1, .int (nI (k1 + 1))), (0, .ref (ad 135))] dX8_digest_30 (j := 0) rfl (inc_n k1 1) (by decide) rfl ?_
        refine r_goto C 14 dX8_digest_33 (by decide) ?_
        refine r_lv (lv2 := [(1, .int (nI (k1 + 1))), (0, .ref (ad 135))]) [0, 1] rfl ?_
        have hJ : hI9 (mI M 135 7 (nI 0)) (mJ Mu6 135 17 (31 * Mu6.2 135 17 + ((ctz (M.1 136) (M.1 139) (M.1 135 1) n d k1).toInt64))) (hsC cT (fun k => (ctz (M.1 136) (M.1 139) (M.1 135 1) n d k).toInt64) 2521 (k1 + 1)) := by have e := hI9.mix hI_k1 hSu6 ((ctz (M.1 136) (M.1 139) (M.1 135 1) n d k1).toInt64); exact e
        exact ih_k1 (k1 + 1) _ (by omega) (by omega) hJ
  refine r_lv (lv2 := [(1, .int (nI 0)), (0, .ref (ad 135))]) [0, 1] rfl ?_
  exact L1 (12 + 1) 0 _ (by omega) (by omega) ⟨SD.hash _ _, mJ_eq0⟩
