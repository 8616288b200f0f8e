/-! ===== the class: its calls, 4: multiply, digest (written by wip/whole/gen/cls19.py) ===== -/
set_option maxRecDepth 100000 in
set_option maxHeartbeats 4000000 in
theorem c_X7_multiply (l : Launch) (D : va_G) (cs : Nat → ClassId) (ad : Nat → Nat) (M : Mm) (z : Nat → Int32) (n d : Nat) (hg : gv M 0 (gH 0) z n d) (hn8 : n ≤ 8) (lt : Nat) (hlt : M.1 120 2 = nI lt) (hlt6 : lt < 6) (s9 : Nat) (hs : M.1 120 3 = nI s9) (hs6 : s9 ≤ 6) (q : Nat) (hq : q ≤ 1) (ht : M.1 119 q = nI 1) (y : Nat → Int32) (n2 d2 : Nat) (hy : gv M (1 + q) (gH (1 + q)) y n2 d2) (hn28 : n2 ≤ 8) (hd4 : d ≤ 4) (hd24 : d2 ≤ 4) (N9 dd : Nat) (hNN : n * n2 = N9) (hdd : d * d2 = dd) (h11 : 1 ≤ n) (h12 : 1 ≤ n2) (h13 : 1 ≤ d) (h14 : 1 ≤ d2) (hm : gm z n) (hmy : gm y n2) (hN8 : N9 ≤ 8) (hd44 : dd ≤ 4) (hrz : rzI z y n n2 N9 dd = nI 0) (c : Nat → Int32) : ∀ sz : Nat, Met l yX7_multiply (.code yX7_multiply cX7_multiply 3 (some .int) :: TT) { frames := 4, cells := 0, slots := 0, locals := 124 } (va_Pc [.ref (ad 117), .int (nI q)] (fun U9 => U9.heap.size = sz ∧ wB D cs ad (fA ad sz) M U9 ∧ xX (fA ad sz) U9 U9.heap)) (va_Qi (fun r M2 => r = nI N9 ∧ ∃ M1 M3, svP M M1 z n d lt s9 (M.1 117 9) ∧ oG 0 M1 M3 ∧ gv M3 0 (gH 0) (mdR c z y N9 dd n2 d2) N9 dd ∧ M2 = mI M3 117 9 (M.1 117 9 + nI 1)) (wB D cs ad (fA ad sz)) (fA ad sz)) 0 0 (fA ad sz) := by
  refine sn_I (by decide) (Nat.le_of_ble_eq_true rfl) (fun κ C hN E => ?_)
  refine r_lv (lv2 := [(0, .ref (ad 117)), (1, .int (nI q))]) [0, 1] rfl ?_
  refine r_aload_n C dX7_multiply_0 rfl 0 rfl ?_
  refine r_iload_n C dX7_multiply_1 rfl 1 rfl ?_
  refine r_pcallV_v (nA := 1) C (Nat.le_of_ble_eq_true rfl) [.int (nI q)] (c_X7_checkTaken l D cs ad M  q hq ht) (tt_V ml_X7_118 im_X7_checkTaken se_X7_checkTaken in_X7 co_X7_checkTaken) ⟨rfl, rfl⟩ ⟨rfl, by decide, by decide, by decide⟩ ⟨Nat.le_of_ble_eq_true rfl, Nat.le_of_ble_eq_true rfl⟩ (by decide) rfl rfl rfl rfl rfl (Nat.le_of_ble_eq_true rfl) dX7_multiply_2 ?_
  refine r_aload_n C dX7_multiply_5 rfl 0 rfl ?_
  refine r_get C (Cn := RX7) (T := TX7) (N := 10) (id := 117) (by decide) inw_X7 rfl rfl 1 (by decide) rfl fl_X7_16 rfl dX7_multiply_6 ?_
  refine r_iload_n C dX7_multiply_9 rfl 1 rfl ?_
  refine r_aald C (id := 118) (n := 2) (a := q) (id2 := (gO (1 + q))) (t0 := 5) (by decide) rfl rfl rfl (by omega) (by decide) (if_pos (by omega)) dX7_multiply_10 ?_
  refine r_astore_n C [(2, .ref (ad (gO (1 + q)))), (0, .ref (ad 117)), (1, .int (nI q))] dX7_multiply_11 rfl (by decide) rfl ?_
  refine r_aload_n C dX7_multiply_12 rfl 1 rfl ?_
  refine r_get C (Cn := RX7) (T := TX7) (N := 10) (id := 117) (by decide) inw_X7 rfl rfl 0 (by decide) rfl fl_X7_12 rfl dX7_multiply_13 ?_
  refine r_aload_n C dX7_multiply_16 rfl 0 rfl ?_
  refine r_npcallS_i (nA := 2) C hN (Nat.le_of_ble_eq_true rfl) [.ref (ad (gO 0)), .ref (ad (gO (1 + q)))] (c_X7_reasonAgainst l D cs ad M  z n d hg hn8 (1 + q) (by omega) y n2 d2 hy hn28 hd4 hd24 N9 dd hNN hdd) (tt_S ml_X7_121 st_X7_reasonAgainst in_X7 co_X7_reasonAgainst) ⟨rfl, rfl⟩ ⟨rfl, by decide, by decide, by decide⟩ ⟨Nat.le_of_ble_eq_true rfl, Nat.le_of_ble_eq_true rfl⟩ rfl rfl (Nat.le_of_ble_eq_true rfl) dX7_multiply_17 ?_
  refine r_topi (w := nI 0) (hrz) ?_
  refine r_if_eq C 33 dX7_multiply_20 (by decide) (fun h20 => ?_) (fun h20 => ?_)
  ·
    refine r_aload_n C dX7_multiply_33 rfl 1 rfl ?_
    refine r_callV_v (nA := 0) C (Nat.le_of_ble_eq_true rfl) [] (c_X7_saveState l D cs ad M  z n d hg hn8 lt hlt hlt6 s9 hs hs6) (tt_V ml_X7_80 im_X7_saveState se_X7_saveState in_X7 co_X7_saveState) ⟨rfl, rfl⟩ ⟨rfl, by decide, by decide, by decide⟩ ⟨Nat.le_of_ble_eq_true rfl, Nat.le_of_ble_eq_true rfl⟩ (by decide) rfl rfl rfl rfl rfl (Nat.le_of_ble_eq_true rfl) dX7_multiply_34 (fun Mu1 qu1 => ?_)
    refine r_aload_n C dX7_multiply_37 rfl 1 rfl ?_
    refine r_get C (Cn := RX7) (T := TX7) (N := 10) (id := 117) (by decide) inw_X7 rfl rfl 0 (by decide) rfl fl_X7_12 rfl dX7_multiply_38 ?_
    refine r_aload_n C dX7_multiply_41 rfl 1 rfl ?_
    refine r_get C (Cn := RX7) (T := TX7) (N := 10) (id := 117) (by decide) inw_X7 rfl rfl 3 (by decide) rfl fl_X7_27 rfl dX7_multiply_42 ?_
    refine r_pcallV_r (nA := 0) (k9 := gO (3 + nx6 lt)) C (Nat.le_of_ble_eq_true rfl) [] (c_X6_latestGraph l D cs ad Mu1 (nx6 lt) qu1.2.1 (nx6_lt hlt6)) (tt_V ml_X7_127 im_X6_latestGraph se_X6_latestGraph in_X6 co_X6_latestGraph) ⟨rfl, rfl⟩ ⟨rfl, by decide, by decide, by decide⟩ ⟨Nat.le_of_ble_eq_true rfl, Nat.le_of_ble_eq_true rfl⟩ (by decide) rfl rfl rfl rfl rfl (Nat.le_of_ble_eq_true rfl) dX7_multiply_45 ?_
    refine r_aload_n C dX7_multiply_48 rfl 0 rfl ?_
    refine r_callV_v (nA := 2) C (Nat.le_of_ble_eq_true rfl) [.ref (ad (gO (3 + nx6 lt))), .ref (ad (gO (1 + q)))] (c_X4_becomeProduct l D cs ad Mu1  (3 + nx6 lt) (1 + q) (by have := nx6_lt hlt6; omega) (by omega) (by omega) (by omega) z y n d n2 d2 qu1.1 (sv_gv qu1 hlt6 hy hn28 (by omega) (by simp only [gH]; omega)) hn8 hn28 hd4 hd24 h11 h12 h13 h14 hm hmy N9 dd hNN hN8 hdd hd44 c) (tt_V ml_X7_131 im_X4_becomeProduct se_X4_becomeProduct in_X4 co_X4_becomeProduct) ⟨rfl, rfl⟩ ⟨rfl, by decide, by decide, by decide⟩ ⟨Nat.le_of_ble_eq_true rfl, Nat.le_of_ble_eq_true rfl⟩ (by simp only [gO, gN, gW, gL, gR, gH] <;> omega) (wF_O cs ad (by decide) _ _) rfl rfl rfl rfl (Nat.le_of_ble_eq_true rfl) dX7_multiply_49 (fun Mu2 qu2 => ?_)
    refine r_aload_n C dX7_multiply_52 rfl 1 rfl ?_
    refine r_dup C dX7_multiply_53 rfl ?_
    refine r_get C (Cn := RX7) (T := TX7) (N := 10) (id := 117) (by decide) inw_X7 rfl rfl 9 (by decide) rfl fl_X7_66 rfl dX7_multiply_54 ?_
    refine r_topi (w := (M.1 117 9)) ((congrFun (qu2.1.1 117 (by decide)) 9).trans (congrFun (sv_id qu1 hlt6 (by decide)) 9)) ?_
    refine r_iconst C (nI 1) dX7_multiply_57 (by decide) ?_
    refine r_iadd C dX7_multiply_58 ?_
    refine r_put C (M2 := (mI Mu2 117 9 ((M.1 117 9) + (nI 1)))) (Cn := RX7) (T := TX7) (N := 10) (id := 117) (by decide) inw_X7 tyX7_ok nmX7 rfl rfl 9 (by decide) rfl fl_X7_66 rfl rfl (rfl) (Nat.le_of_ble_eq_true rfl) (fun j hj => ⟨mI_ne _ hj, rfl⟩) rfl dX7_multiply_59 ?_
    refine r_aload_n C dX7_multiply_62 rfl 1 rfl ?_
    refine r_get C (Cn := RX7) (T := TX7) (N := 10) (id := 117) (by decide) inw_X7 rfl rfl 0 (by decide) rfl fl_X7_12 rfl dX7_multiply_63 ?_
    refine r_get C (Cn := RX4) (T := TX4) (N := 6) (id := (gO 0)) (by simp only [gO, gN, gW, gL, gR, gH] <;> omega) inw_X4 (wF_O cs ad (by decide) _ _) rfl 0 (by decide) rfl fl_X7_77 rfl dX7_multiply_66 ?_
    refine r_topi (w := (Mu2.1 (gO 0) 0)) (by rw [mI_ne _ (show gO 0 ≠ 117 from (by simp only [gO, gN, gW, gL, gR, gH] <;> omega))]) ?_
    refine r_topi (w := nI N9) qu2.2.1 ?_
    exact E 0 _ _ _ _ (Nat.le_of_ble_eq_true rfl) dX7_multiply_69 (⟨rfl, _, _, qu1, qu2.1, qu2.2, rfl⟩)
  · exact absurd h20 (by decide)
set_option maxRecDepth 100000 in
set_option maxHeartbeats 4000000 in
theorem c_X7_multiplyX (l : Launch) (D : va_G) (cs : Nat → ClassId) (ad : Nat → Nat) (hfl : l.stackTraces = false) (M : Mm) (x : Int32) (hbad : wit x (nI 0) (nI 1) = false) : ∀ sz : Nat, vx_Met l yX7_multiply (.code yX7_multiply cX7_multiply 3 (some .int) :: TT) { frames := 8, cells := 1, slots := 6, locals := 134 } (va_Pc [.ref (ad 117), .int x] (fun U9 => U9.heap.size = sz ∧ wB D cs ad (fA ad sz) M U9 ∧ xX (fA ad sz) U9 U9.heap)) (va_Qi (fun _ (_ : Mm) => False) (wB D cs ad (fA ad sz)) (fA ad sz)) (vx_X (fun M2 => M2 = M) (fun E9 M2 t => E9 = xQI ∧ wB D cs ad (fA ad sz) M2 t) (fA ad sz)) 1 6 (fA ad sz) := by
  refine sx_I hfl (by decide) (Nat.le_of_ble_eq_true rfl) (fun κ C hN X => ?_)
  refine r_lv (lv2 := [(0, .ref (ad 117)), (1, .int x)]) [0, 1] rfl ?_
  refine r_aload_n C dX7_multiply_0 rfl 0 rfl ?_
  refine r_iload_n C dX7_multiply_1 rfl 1 rfl ?_
  exact r_xcallV_v (nA := 1) C hN X [.int x] (c_X7_checkTakenX l D cs ad hfl M  x hbad) (tt_V ml_X7_118 im_X7_checkTaken se_X7_checkTaken in_X7 co_X7_checkTaken) ⟨rfl, rfl⟩ ⟨rfl, by decide, by decide, by decide⟩ ⟨Nat.le_of_ble_eq_true rfl, Nat.le_of_ble_eq_true rfl⟩ (by decide) rfl rfl rfl rfl rfl (Nat.le_of_ble_eq_true rfl) dX7_multiply_2 (fun _ h => h)
set_option maxRecDepth 100000 in
set_option maxHeartbeats 4000000 in
theorem c_X7_multiplyF (l : Launch) (D : va_G) (cs : Nat → ClassId) (ad : Nat → Nat) (hfl : l.stackTraces = false) (M : Mm) (q : Nat) (hq : q ≤ 1) (ht : M.1 119 q = nI 0) : ∀ sz : Nat, vx_Met l yX7_multiply (.code yX7_multiply cX7_multiply 3 (some .int) :: TT) { frames := 7, cells := 1, slots := 6, locals := 113 } (va_Pc [.ref (ad 117), .int (nI q)] (fun U9 => U9.heap.size = sz ∧ wB D cs ad (fA ad sz) M U9 ∧ xX (fA ad sz) U9 U9.heap)) (va_Qi (fun _ (_ : Mm) => False) (wB D cs ad (fA ad sz)) (fA ad sz)) (vx_X (fun M2 => M2 = M) (fun E9 M2 t => E9 = xQS ∧ wB D cs ad (fA ad sz) M2 t) (fA ad sz)) 1 6 (fA ad sz) := by
  refine sx_I hfl (by decide) (Nat.le_of_ble_eq_true rfl) (fun κ C hN X => ?_)
  refine r_lv (lv2 := [(0, .ref (ad 117)), (1, .int (nI q))]) [0, 1] rfl ?_
  refine r_aload_n C dX7_multiply_0 rfl 0 rfl ?_
  refine r_iload_n C dX7_multiply_1 rfl 1 rfl ?_
  exact r_xcallV_v (nA := 1) C hN X [.int (nI q)] (c_X7_checkTakenF l D cs ad hfl M  q hq ht) (tt_V ml_X7_118 im_X7_checkTaken se_X7_checkTaken in_X7 co_X7_checkTaken) ⟨rfl, rfl⟩ ⟨rfl, by decide, by decide, by decide⟩ ⟨Nat.le_of_ble_eq_true rfl, Nat.le_of_ble_eq_true rfl⟩ (by decide) rfl rfl rfl rfl rfl (Nat.le_of_ble_eq_true rfl) dX7_multiply_2 (fun _ h => h)
set_option maxRecDepth 100000 in
set_option maxHeartbeats 4000000 in
theorem c_X7_multiplyN (l : Launch) (D : va_G) (cs : Nat → ClassId) (ad : Nat → Nat) (hfl : l.stackTraces = false) (M : Mm) (z : Nat → Int32) (n d : Nat) (hg : gv M 0 (gH 0) z n d) (hn8 : n ≤ 8) (q : Nat) (hq : q ≤ 1) (ht : M.1 119 q = nI 1) (y : Nat → Int32) (n2 d2 : Nat) (hy : gv M (1 + q) (gH (1 + q)) y n2 d2) (hn28 : n2 ≤ 8) (hd4 : d ≤ 4) (hd24 : d2 ≤ 4) (N9 dd : Nat) (hNN : n * n2 = N9) (hdd : d * d2 = dd) (hrz : ¬ rzI z y n n2 N9 dd = nI 0) : ∀ sz : Nat, vx_Met l yX7_multiply (.code yX7_multiply cX7_multiply 3 (some .int) :: TT) { frames := 6, cells := 1, slots := 6, locals := 92 } (va_Pc [.ref (ad 117), .int (nI q)] (fun U9 => U9.heap.size = sz ∧ wB D cs ad (fA ad sz) M U9 ∧ xX (fA ad sz) U9 U9.heap)) (va_Qi (fun _ (_ : Mm) => False) (wB D cs ad (fA ad sz)) (fA ad sz)) (vx_X (fun M2 => M2 = M) (fun E9 M2 t => E9 = xQS ∧ wB D cs ad (fA ad sz) M2 t) (fA ad sz)) 1 6 (fA ad sz) := by
  refine sx_I hfl (by decide) (Nat.le_of_ble_eq_true rfl) (fun κ C hN X => ?_)
  refine r_lv (lv2 := [(0, .ref (ad 117)), (1, .int (nI q))]) [0, 1] rfl ?_
  refine r_aload_n C dX7_multiply_0 rfl 0 rfl ?_
  refine r_iload_n C dX7_multiply_1 rfl 1 rfl ?_
  refine r_pcallV_v (nA := 1) C (Nat.le_of_ble_eq_true rfl) [.int (nI q)] (c_X7_checkTaken l D cs ad M  q hq ht) (tt_V ml_X7_118 im_X7_checkTaken se_X7_checkTaken in_X7 co_X7_checkTaken) ⟨rfl, rfl⟩ ⟨rfl, by decide, by decide, by decide⟩ ⟨Nat.le_of_ble_eq_true rfl, Nat.le_of_ble_eq_true rfl⟩ (by decide) rfl rfl rfl rfl rfl (Nat.le_of_ble_eq_true rfl) dX7_multiply_2 ?_
  refine r_aload_n C dX7_multiply_5 rfl 0 rfl ?_
  refine r_get C (Cn := RX7) (T := TX7) (N := 10) (id := 117) (by decide) inw_X7 rfl rfl 1 (by decide) rfl fl_X7_16 rfl dX7_multiply_6 ?_
  refine r_iload_n C dX7_multiply_9 rfl 1 rfl ?_
  refine r_aald C (id := 118) (n := 2) (a := q) (id2 := (gO (1 + q))) (t0 := 5) (by decide) rfl rfl rfl (by omega) (by decide) (if_pos (by omega)) dX7_multiply_10 ?_
  refine r_astore_n C [(2, .ref (ad (gO (1 + q)))), (0, .ref (ad 117)), (1, .int (nI q))] dX7_multiply_11 rfl (by decide) rfl ?_
  refine r_aload_n C dX7_multiply_12 rfl 1 rfl ?_
  refine r_get C (Cn := RX7) (T := TX7) (N := 10) (id := 117) (by decide) inw_X7 rfl rfl 0 (by decide) rfl fl_X7_12 rfl dX7_multiply_13 ?_
  refine r_aload_n C dX7_multiply_16 rfl 0 rfl ?_
  refine r_npcallS_i (nA := 2) C hN (Nat.le_of_ble_eq_true rfl) [.ref (ad (gO 0)), .ref (ad (gO (1 + q)))] (c_X7_reasonAgainst l D cs ad M  z n d hg hn8 (1 + q) (by omega) y n2 d2 hy hn28 hd4 hd24 N9 dd hNN hdd) (tt_S ml_X7_121 st_X7_reasonAgainst in_X7 co_X7_reasonAgainst) ⟨rfl, rfl⟩ ⟨rfl, by decide, by decide, by decide⟩ ⟨Nat.le_of_ble_eq_true rfl, Nat.le_of_ble_eq_true rfl⟩ rfl rfl (Nat.le_of_ble_eq_true rfl) dX7_multiply_17 ?_
  refine r_if_eq C 33 dX7_multiply_20 (by decide) (fun h20 => ?_) (fun h20 => ?_)
  · exact absurd h20 hrz
  ·
    exact r_throw C hN X (by decide) (show (125, "there is a reason against the product") ∈ xTx from List.mem_of_getElem? (i := 7) rfl) xl_S xi_S xw_S xg_S dX7_multiply_23 dX7_multiply_26 dX7_multiply_27 dX7_multiply_29 dX7_multiply_32 (Nat.le_of_ble_eq_true rfl) (Nat.le_of_ble_eq_true rfl) rfl
set_option maxRecDepth 100000 in
set_option maxHeartbeats 4000000 in
theorem c_X7_digest (l : Launch) (D : va_G) (cs : Nat → ClassId) (ad : Nat → Nat) (M : Mm) (z : Nat → Int32) (n d : Nat) (hg : gv M 0 (gH 0) z n d) (hn8 : n ≤ 8) (hm : gm z n) (mk wt9 : Nat → Nat) (hk : gk z n mk) (hw9 : gw z n wt9) (hsy : gs z n) (hn1 : 1 ≤ n) (hpm : M.1 117 9 = z 54) (htk : ∀ k, k < 2 → M.1 119 k = nI 0 ∨ M.1 119 k = nI 1) (hd4 : d ≤ 4) (hz0 : ∀ p, d ≤ p → p < 4 → z (50 + p) = nI 0) (wt U S : Nat → Nat) (H : Nat) (hBr : rsz z n = nI 0 → bnH z n wt U S H) (hpo : rsz z n = nI 0 → hpos n wt U H) (hnn : rsz z n = nI 0 → ¬ bnA wt U S H n = 0 → vf_n64 (FP.dmul (FP.i2d (wz z n (hvz z n (nI 0)))) (FP.l2d (lN (bnB wt U S H n)))) ∧ vf_n64 (FP.ddiv (FP.dmul (FP.i2d (wz z n (hvz z n (nI 0)))) (FP.l2d (lN (bnB wt U S H n)))) (FP.l2d (lN (bnA wt U S H n))))) (hAb : bnA wt U S H n < 2 ^ 62) (U1 : Nat → Nat) (S1 : Nat → Nat → Nat) (H1 : Nat → Nat) (hBB : lbHyp z n d 3 1 wt U1 S1 H1) (hpB : ∀ c, c < 3 ^ d → upR (hnR z d c 3 1 d) n = -1 → hpos n wt U1 (H1 c)) (len : Nat) (hlen : M.1 123 1 = nI len) (hl60 : len ≤ 60) (hbo : bitsOK (nrz z n wt U S H)) : ∀ sz : Nat, Met l yX7_digest (.code yX7_digest cX7_digest 4 (some .long) :: TT) { frames := 42, cells := 0, slots := 0, locals := 1042 } (va_Pc [.ref (ad 117)] (fun U9 => U9.heap.size = sz ∧ wB D cs ad (fA ad sz) M U9 ∧ xX (fA ad sz) U9 U9.heap)) (va_Ql (fun r M2 => r = dgz z (M.1 119) (M.1 124) (M.1 120 3) n d len wt U S H U1 S1 H1 ∧ lkP M M2) (wB D cs ad (fA ad sz)) (fA ad sz)) 0 0 (fA ad sz) := by
  refine sn_L (by decide) (Nat.le_of_ble_eq_true rfl) (fun κ C hN E => ?_)
  refine r_lv (lv2 := [(0, .ref (ad 117))]) [0] rfl ?_
  refine r_aload_n C dX7_digest_0 rfl 0 rfl ?_
  refine r_callV_v (nA := 0) C (Nat.le_of_ble_eq_true rfl) [] (c_X7_searchGraph l D cs ad M  z n d hg hn8 hm hsy hn1) (tt_V ml_X7_234 im_X7_searchGraph se_X7_searchGraph in_X7 co_X7_searchGraph) ⟨rfl, rfl⟩ ⟨rfl, by decide, by decide, by decide⟩ ⟨Nat.le_of_ble_eq_true rfl, Nat.le_of_ble_eq_true rfl⟩ (by decide) rfl rfl rfl rfl rfl (Nat.le_of_ble_eq_true rfl) dX7_digest_1 (fun Mu1 qu1 => ?_)
  refine r_ldc2 C (2521) k_X7_268 dX7_digest_4 ?_
  refine r_lstore_n C [(1, .long (2521)), (0, .ref (ad 117))] dX7_digest_7 rfl (by decide) rfl ?_
  refine r_iconst C (nI 0) dX7_digest_8 (by decide) ?_
  refine r_istore_n C [(3, .int (nI 0)), (1, .long (2521)), (0, .ref (ad 117))] dX7_digest_9 rfl (by decide) rfl ?_
  have Lp : ∀ (f k : Nat), 12 + 1 ≤ k + f → k ≤ 12 → VV l D cs ad 4 κ 0 Mu1 10 [(3, .int (nI k)), (1, .long (hsC cT (fun k => (ctz z (M.1 119) (M.1 120 3) n d k).toInt64) 2521 k)), (0, .ref (ad 117))] [] := by
    intro f
    induction f with
    | zero => intro k hk1 hk2; exact absurd hk1 (by omega)
    | succ f ih =>
      intro k hk1 hk2
      refine r_iload_n C dX7_digest_10 rfl 0 rfl ?_
      refine r_bipush C (nI 11) dX7_digest_11 (by decide) ?_
      refine r_icmpN_gt C 33 dX7_digest_13 (by decide) (by omega) (by omega) (fun h13 => ?_) (fun h13 => ?_)
      ·
        have hk9 : 12 = k := by omega
        subst hk9
        refine r_aload_n C dX7_digest_33 rfl 2 rfl ?_
        refine r_lload_n C dX7_digest_34 rfl 1 rfl ?_
        refine r_pcallV_l (nA := 1) C (Nat.le_of_ble_eq_true rfl) [.long (hsC cT (fun k => (ctz z (M.1 119) (M.1 120 3) n d k).toInt64) 2521 12)] (c_X7_mixVertices l D cs ad Mu1  z n d (sg_gv qu1 hg hn8) hn8 hm mk wt9 hk hw9 hsy qu1.2.2.2.1 qu1.2.2.2.2 (hsC cT (fun k => (ctz z (M.1 119) (M.1 120 3) n d k).toInt64) 2521 12)) (tt_V ml_X7_274 im_X7_mixVertices se_X7_mixVertices in_X7 co_X7_mixVertices) ⟨rfl, rfl⟩ ⟨rfl, by decide, by decide, by decide⟩ ⟨Nat.le_of_ble_eq_true rfl, Nat.le_of_ble_eq_true rfl⟩ (by decide) rfl rfl rfl rfl rfl (Nat.le_of_ble_eq_true rfl) dX7_digest_35 ?_
        refine r_lstore_n C [(1, .long (mvs z n (hsC cT (fun k => (ctz z (M.1 119) (M.1 120 3) n d k).toInt64) 2521 12) n)), (3, .int (nI 12)), (0, .ref (ad 117))] dX7_digest_38 rfl (by decide) rfl ?_
        refine r_iconst C (nI 0) dX7_digest_39 (by decide) ?_
        refine r_istore_n C [(3, .int (nI 0)), (1, .long (mvs z n (hsC cT (fun k => (ctz z (M.1 119) (M.1 120 3) n d k).toInt64) 2521 12) n)), (0, .ref (ad 117))] dX7_digest_40 rfl (by decide) rfl ?_
        have Lp2 : ∀ (f_p p : Nat), d + 1 ≤ p + f_p → p ≤ d → VV l D cs ad 4 κ 0 Mu1 41 [(3, .int (nI p)), (1, .long (hsC cT (fun p => (z (50 + p)).toInt64) (mvs z n (hsC cT (fun k => (ctz z (M.1 119) (M.1 120 3) n d k).toInt64) 2521 12) n) p)), (0, .ref (ad 117))] [] := by
          intro f_p
          induction f_p with
          | zero => intro p hk1_p hk2_p; exact absurd hk1_p (by omega)
          | succ f_p ih_p =>
            intro p hk1_p hk2_p
            refine r_iload_n C dX7_digest_41 rfl 0 rfl ?_
            refine r_aload_n C dX7_digest_42 rfl 2 rfl ?_
            refine r_get C (Cn := RX7) (T := TX7) (N := 10) (id := 117) (by decide) inw_X7 rfl rfl 0 (by decide) rfl fl_X7_12 rfl dX7_digest_43 ?_
            refine r_get C (Cn := RX4) (T := TX4) (N := 6) (id := (gO 0)) (by simp only [gO, gN, gW, gL, gR, gH] <;> omega) inw_X4 (wF_O cs ad (by decide) _ _) rfl 1 (by decide) rfl fl_X7_155 rfl dX7_digest_46 ?_
            refine r_topi (w := nI d) (sg_gv qu1 hg hn8).2.1 ?_
            refine r_icmpN_ge C 73 dX7_digest_49 (by decide) (by omega) (by omega) (fun h49 => ?_) (fun h49 => ?_)
            ·
              have hk9 : d = p := by omega
              subst hk9
              refine r_aload_n C dX7_digest_73 rfl 2 rfl ?_
              refine r_lload_n C dX7_digest_74 rfl 1 rfl ?_
              refine r_ncallV_l (nA := 1) C hN (Nat.le_of_ble_eq_true rfl) [.long (hsC cT (fun p => (z (50 + p)).toInt64) (mvs z n (hsC cT (fun k => (ctz z (M.1 119) (M.1 120 3) n d k).toInt64) 2521 12) n) d)] (c_X7_mixBounds l D cs ad Mu1  z n d (sg_gv qu1 hg hn8) hn8 hm mk hk hd4 hz0 wt U S H hBr hpo wt U1 S1 H1 hBB hpB (hsC cT (fun p => (z (50 + p)).toInt64) (mvs z n (hsC cT (fun k => (ctz z (M.1 119) (M.1 120 3) n d k).toInt64) 2521 12) n) d)) (tt_V ml_X7_278 im_X7_mixBounds se_X7_mixBounds in_X7 co_X7_mixBounds) ⟨rfl, rfl⟩ ⟨rfl, by decide, by decide, by decide⟩ ⟨Nat.le_of_ble_eq_true rfl, Nat.le_of_ble_eq_true rfl⟩ (by decide) rfl rfl rfl rfl rfl (Nat.le_of_ble_eq_true rfl) dX7_digest_75 (fun ru2 Mu2 qu2 => ?_)
              obtain ⟨rfl, qsu2⟩ := qu2
              have hg2 : gv Mu2 0 (gH 0) z n d := gv_k (sg_gv qu1 hg hn8) hn8 (fun i hi => (qsu2 i (by simp only [gH] at hi; omega)).1)
              refine r_lstore_n C [(1, .long (hsC cB (fun w => bhz z n d 3 1 wt U1 S1 H1 w) (hsC cT (fun w => (rnz z n w).toInt64) (hsC cT (fun p => bdz z n wt U S H p) (hsC cT (fun p => (z (50 + p)).toInt64) (mvs z n (hsC cT (fun k => (ctz z (M.1 119) (M.1 120 3) n d k).toInt64) 2521 12) n) d) 3) 3) 14)), (3, .int (nI d)), (0, .ref (ad 117))] dX7_digest_78 rfl (by decide) rfl ?_
              refine r_lload_n C dX7_digest_79 rfl 0 rfl ?_
              refine r_aload_n C dX7_digest_80 rfl 2 rfl ?_
              refine r_ncallV_d (nA := 0) C hN (Nat.le_of_ble_eq_true rfl) [] (c_X7_share l D cs ad Mu2  z n d hg2 hn8 hm mk wt9 hk hw9 hsy (by rw [(qsu2 126 (by decide)).1]; exact qu1.2.2.2.1) (qu1.2.2.2.2.k (qsu2 127 (by decide)).1 (qsu2 128 (by decide)).1) wt U S H hBr hpo hnn hAb) (tt_V ml_X7_264 im_X7_share se_X7_share in_X7 co_X7_share) ⟨rfl, rfl⟩ ⟨rfl, by decide, by decide, by decide⟩ ⟨Nat.le_of_ble_eq_true rfl, Nat.le_of_ble_eq_true rfl⟩ (by decide) rfl rfl rfl rfl rfl (Nat.le_of_ble_eq_true rfl) dX7_digest_81 (fun ru3 Mu3 qu3 => ?_)
              obtain ⟨rfl, qsu3⟩ := qu3
              have e3 : ∀ i, i = 123 ∨ i = 124 → Mu3.1 i = M.1 i := fun i hi => (qsu3.1 i (by omega)).trans (((qsu2 i (by omega)).1).trans (qu1.1 i (by omega)))
              refine r_pcallS_l (nA := 1) C (Nat.le_of_ble_eq_true rfl) [.double (nrz z n wt U S H)] (c_X7_bitsOf l D cs ad Mu3 (nrz z n wt U S H) hbo) (tt_S ml_X7_281 st_X7_bitsOf in_X7 co_X7_bitsOf) ⟨rfl, rfl⟩ ⟨rfl, by decide, by decide, by decide⟩ ⟨Nat.le_of_ble_eq_true rfl, Nat.le_of_ble_eq_true rfl⟩ rfl rfl (Nat.le_of_ble_eq_true rfl) dX7_digest_84 ?_
              refine r_pcallS_l (nA := 2) C (Nat.le_of_ble_eq_true rfl) [.long (hsC cB (fun w => bhz z n d 3 1 wt U1 S1 H1 w) (hsC cT (fun w => (rnz z n w).toInt64) (hsC cT (fun p => bdz z n wt U S H p) (hsC cT (fun p => (z (50 + p)).toInt64) (mvs z n (hsC cT (fun k => (ctz z (M.1 119) (M.1 120 3) n d k).toInt64) 2521 12) n) d) 3) 3) 14), .long ((nrz z n wt U S H).toInt64)] (c_X7_mix l D cs ad Mu3 (hsC cB (fun w => bhz z n d 3 1 wt U1 S1 H1 w) (hsC cT (fun w => (rnz z n w).toInt64) (hsC cT (fun p => bdz z n wt U S H p) (hsC cT (fun p => (z (50 + p)).toInt64) (mvs z n (hsC cT (fun k => (ctz z (M.1 119) (M.1 120 3) n d k).toInt64) 2521 12) n) d) 3) 3) 14) ((nrz z n wt U S H).toInt64) ) (tt_S ml_X7_270 st_X7_mix in_X7 co_X7_mix) ⟨rfl, rfl⟩ ⟨rfl, by decide, by decide, by decide⟩ ⟨Nat.le_of_ble_eq_true rfl, Nat.le_of_ble_eq_true rfl⟩ rfl rfl (Nat.le_of_ble_eq_true rfl) dX7_digest_87 ?_
              refine r_lstore_n C [(1, .long (31 * (hsC cB (fun w => bhz z n d 3 1 wt U1 S1 H1 w) (hsC cT (fun w => (rnz z n w).toInt64) (hsC cT (fun p => bdz z n wt U S H p) (hsC cT (fun p => (z (50 + p)).toInt64) (mvs z n (hsC cT (fun k => (ctz z (M.1 119) (M.1 120 3) n d k).toInt64) 2521 12) n) d) 3) 3) 14) + ((nrz z n wt U S H).toInt64))), (3, .int (nI d)), (0, .ref (ad 117))] dX7_digest_90 rfl (by decide) rfl ?_
              refine r_lload_n C dX7_digest_91 rfl 0 rfl ?_
              refine r_aload_n C dX7_digest_92 rfl 2 rfl ?_
              refine r_get C (Cn := RX7) (T := TX7) (N := 10) (id := 117) (by decide) inw_X7 rfl rfl 4 (by decide) rfl fl_X7_34 rfl dX7_digest_93 ?_
              refine r_get C (Cn := RX3) (T := TX3) (N := 2) (id := 123) (by decide) inw_X3 rfl rfl 1 (by decide) rfl fl_X7_189 rfl dX7_digest_96 ?_
              refine r_topi (w := nI len) ((congrFun (e3 123 (by decide)) 1).trans hlen) ?_
              refine r_i2l C dX7_digest_99 ?_
              refine r_topl (w := lN len) (nI_l (by omega)) ?_
              refine r_pcallS_l (nA := 2) C (Nat.le_of_ble_eq_true rfl) [.long (31 * (hsC cB (fun w => bhz z n d 3 1 wt U1 S1 H1 w) (hsC cT (fun w => (rnz z n w).toInt64) (hsC cT (fun p => bdz z n wt U S H p) (hsC cT (fun p => (z (50 + p)).toInt64) (mvs z n (hsC cT (fun k => (ctz z (M.1 119) (M.1 120 3) n d k).toInt64) 2521 12) n) d) 3) 3) 14) + ((nrz z n wt U S H).toInt64)), .long (lN len)] (c_X7_mix l D cs ad Mu3 (31 * (hsC cB (fun w => bhz z n d 3 1 wt U1 S1 H1 w) (hsC cT (fun w => (rnz z n w).toInt64) (hsC cT (fun p => bdz z n wt U S H p) (hsC cT (fun p => (z (50 + p)).toInt64) (mvs z n (hsC cT (fun k => (ctz z (M.1 119) (M.1 120 3) n d k).toInt64) 2521 12) n) d) 3) 3) 14) + ((nrz z n wt U S H).toInt64)) (lN len) ) (tt_S ml_X7_270 st_X7_mix in_X7 co_X7_mix) ⟨rfl, rfl⟩ ⟨rfl, by decide, by decide, by decide⟩ ⟨Nat.le_of_ble_eq_true rfl, Nat.le_of_ble_eq_true rfl⟩ rfl rfl (Nat.le_of_ble_eq_true rfl) dX7_digest_100 ?_
              refine r_lstore_n C [(1, .long (31 * (31 * (hsC cB (fun w => bhz z n d 3 1 wt U1 S1 H1 w) (hsC cT (fun w => (rnz z n w).toInt64) (hsC cT (fun p => bdz z n wt U S H p) (hsC cT (fun p => (z (50 + p)).toInt64) (mvs z n (hsC cT (fun k => (ctz z (M.1 119) (M.1 120 3) n d k).toInt64) 2521 12) n) d) 3) 3) 14) + ((nrz z n wt U S H).toInt64)) + (lN len))), (3, .int (nI d)), (0, .ref (ad 117))] dX7_digest_103 rfl (by decide) rfl ?_
              refine r_iconst C (nI 0) dX7_digest_104 (by decide) ?_
              refine r_istore_n C [(3, .int (nI 0)), (1, .long (31 * (31 * (hsC cB (fun w => bhz z n d 3 1 wt U1 S1 H1 w) (hsC cT (fun w => (rnz z n w).toInt64) (hsC cT (fun p => bdz z n wt U S H p) (hsC cT (fun p => (z (50 + p)).toInt64) (mvs z n (hsC cT (fun k => (ctz z (M.1 119) (M.1 120 3) n d k).toInt64) 2521 12) n) d) 3) 3) 14) + ((nrz z n wt U S H).toInt64)) + (lN len))), (0, .ref (ad 117))] dX7_digest_105 rfl (by decide) rfl ?_
              have Lx : ∀ (f k : Nat), len + 1 ≤ k + f → k ≤ len → VV l D cs ad 4 κ 0 Mu3 106 [(3, .int (nI k)), (1, .long (hsC cT (fun k => (M.1 124 k).toInt64) (31 * (31 * (hsC cB (fun w => bhz z n d 3 1 wt U1 S1 H1 w) (hsC cT (fun w => (rnz z n w).toInt64) (hsC cT (fun p => bdz z n wt U S H p) (hsC cT (fun p => (z (50 + p)).toInt64) (mvs z n (hsC cT (fun k => (ctz z (M.1 119) (M.1 120 3) n d k).toInt64) 2521 12) n) d) 3) 3) 14) + (nrz z n wt U S H).toInt64) + lN len) k)), (0, .ref (ad 117))] [] := by
                intro f
                induction f with
                | zero => intro k hk1 hk2; exact absurd hk1 (by omega)
                | succ f ih =>
                  intro k hk1 hk2
                  refine r_iload_n C dX7_digest_106 rfl 0 rfl ?_
                  refine r_aload_n C dX7_digest_107 rfl 2 rfl ?_
                  refine r_get C (Cn := RX7) (T := TX7) (N := 10) (id := 117) (by decide) inw_X7 rfl rfl 4 (by decide) rfl fl_X7_34 rfl dX7_digest_108 ?_
                  refine r_get C (Cn := RX3) (T := TX3) (N := 2) (id := 123) (by decide) inw_X3 rfl rfl 1 (by decide) rfl fl_X7_189 rfl dX7_digest_111 ?_
                  refine r_topi (w := nI len) ((congrFun (e3 123 (by decide)) 1).trans hlen) ?_
                  refine r_icmpN_ge C 138 dX7_digest_114 (by decide) (by omega) (by omega) (fun h114 => ?_) (fun h114 => ?_)
                  ·
                    have hk9 : len = k := by omega
                    subst hk9
                    refine r_lload_n C dX7_digest_138 rfl 1 rfl ?_
                    exact E 0 _ _ _ _ (Nat.le_of_ble_eq_true rfl) dX7_digest_139 (⟨rfl, (sg_lk qu1).tr (fun i hi => ⟨(qsu3.1 i (by omega)).trans (qsu2 i (by omega)).1, (qsu3.2 i (by omega)).trans (qsu2 i (by omega)).2⟩)⟩)
                  ·
                    refine r_lload_n C dX7_digest_117 rfl 1 rfl ?_
                    refine r_aload_n C dX7_digest_118 rfl 2 rfl ?_
                    refine r_get C (Cn := RX7) (T := TX7) (N := 10) (id := 117) (by decide) inw_X7 rfl rfl 4 (by decide) rfl fl_X7_34 rfl dX7_digest_119 ?_
                    refine r_get C (Cn := RX3) (T := TX3) (N := 2) (id := 123) (by decide) inw_X3 rfl rfl 0 (by decide) rfl fl_X7_194 rfl dX7_digest_122 ?_
                    refine r_iload_n C dX7_digest_125 rfl 0 rfl ?_
                    refine r_cald C (id := 124) (n := 60) (a := k) (by decide) rfl (by omega) (by decide) dX7_digest_126 ?_
                    refine r_topi (w := (M.1 124 k)) (congrFun (e3 124 (by decide)) k) ?_
                    refine r_i2l C dX7_digest_127 ?_
                    refine r_pcallS_l (nA := 2) C (Nat.le_of_ble_eq_true rfl) [.long (hsC cT (fun k => (M.1 124 k).toInt64) (31 * (31 * (hsC cB (fun w => bhz z n d 3 1 wt U1 S1 H1 w) (hsC cT (fun w => (rnz z n w).toInt64) (hsC cT (fun p => bdz z n wt U S H p) (hsC cT (fun p => (z (50 + p)).toInt64) (mvs z n (hsC cT (fun k => (ctz z (M.1 119) (M.1 120 3) n d k).toInt64) 2521 12) n) d) 3) 3) 14) + (nrz z n wt U S H).toInt64) + lN len) k), .long ((M.1 124 k).toInt64)] (c_X7_mix l D cs ad Mu3 (hsC cT (fun k => (M.1 124 k).toInt64) (31 * (31 * (hsC cB (fun w => bhz z n d 3 1 wt U1 S1 H1 w) (hsC cT (fun w => (rnz z n w).toInt64) (hsC cT (fun p => bdz z n wt U S H p) (hsC cT (fun p => (z (50 + p)).toInt64) (mvs z n (hsC cT (fun k => (ctz z (M.1 119) (M.1 120 3) n d k).toInt64) 2521 12) n) d) 3) 3) 14) + (nrz z n wt U S H).toInt64) + lN len) k) ((M.1 124 k).toInt64) ) (tt_S ml_X7_270 st_X7_mix in_X7 co_X7_mix) ⟨rfl, rfl⟩ ⟨rfl, by decide, by decide, by decide⟩ ⟨Nat.le_of_ble_eq_true rfl, Nat.le_of_ble_eq_true rfl⟩ rfl rfl (Nat.le_of_ble_eq_true rfl) dX7_digest_128 ?_
                    refine r_topl (w := hsC cT (fun k => (M.1 124 k).toInt64) (31 * (31 * (hsC cB (fun w => bhz z n d 3 1 wt U1 S1 H1 w) (hsC cT (fun w => (rnz z n w).toInt64) (hsC cT (fun p => bdz z n wt U S H p) (hsC cT (fun p => (z (50 + p)).toInt64) (mvs z n (hsC cT (fun k => (ctz z (M.1 119) (M.1 120 3) n d k).toInt64) 2521 12) n) d) 3) 3) 14) + (nrz z n wt U S H).toInt64) + lN len) (k + 1)) (hsC_y (c := cT) (v := (fun k => (M.1 124 k).toInt64)) rfl) ?_
                    refine r_lstore_n C [(1, .long (hsC cT (fun k => (M.1 124 k).toInt64) (31 * (31 * (hsC cB (fun w => bhz z n d 3 1 wt U1 S1 H1 w) (hsC cT (fun w => (rnz z n w).toInt64) (hsC cT (fun p => bdz z n wt U S H p) (hsC cT (fun p => (z (50 + p)).toInt64) (mvs z n (hsC cT (fun k => (ctz z (M.1 119) (M.1 120 3) n d k).toInt64) 2521 12) n) d) 3) 3) 14) + (nrz z n wt U S H).toInt64) + lN len) (k + 1))), (3, .int (nI k)), (0, .ref (ad 117))] dX7_digest_131 rfl (by decide) rfl ?_
                    refine r_iinc C (nI (k + 1)) [(3, .int (nI (k + 1))), (1, .long (hsC cT (fun k => (M.1 124 k).toInt64) (31 * (31 * (hsC cB (fun w => bhz z n d 3 1 wt U1 S1 H1 w) (hsC cT (fun w => (rnz z n w).toInt64) (hsC cT (fun p => bdz z n wt U S H p) (hsC cT (fun p => (z (50 + p)).toInt64) (mvs z n (hsC cT (fun k => (ctz z (M.1 119) (M.1 120 3) n d k).toInt64) 2521 12) n) d) 3) 3) 14) + (nrz z n wt U S H).toInt64) + lN len) (k + 1))), (0, .ref (ad 117))] dX7_digest_132 (j := 1) rfl (inc_n k 1) (by decide) rfl ?_
                    refine r_goto C 106 dX7_digest_135 (by decide) ?_
                    refine r_lv (lv2 := [(3, .int (nI (k + 1))), (1, .long (hsC cT (fun k => (M.1 124 k).toInt64) (31 * (31 * (hsC cB (fun w => bhz z n d 3 1 wt U1 S1 H1 w) (hsC cT (fun w => (rnz z n w).toInt64) (hsC cT (fun p => bdz z n wt U S H p) (hsC cT (fun p => (z (50 + p)).toInt64) (mvs z n (hsC cT (fun k => (ctz z (M.1 119) (M.1 120 3) n d k).toInt64) 2521 12) n) d) 3) 3) 14) + (nrz z n wt U S H).toInt64) + lN len) (k + 1))), (0, .ref (ad 117))]) [0, 1, 2] rfl ?_
                    exact ih (k + 1) (by omega) (by omega)
              refine r_lv (lv2 := [(3, .int (nI 0)), (1, .long (hsC cT (fun k => (M.1 124 k).toInt64) (31 * (31 * (hsC cB (fun w => bhz z n d 3 1 wt U1 S1 H1 w) (hsC cT (fun w => (rnz z n w).toInt64) (hsC cT (fun p => bdz z n wt U S H p) (hsC cT (fun p => (z (50 + p)).toInt64) (mvs z n (hsC cT (fun k => (ctz z (M.1 119) (M.1 120 3) n d k).toInt64) 2521 12) n) d) 3) 3) 14) + (nrz z n wt U S H).toInt64) + lN len) 0)), (0, .ref (ad 117))]) [0, 1, 2] rfl ?_
              exact Lx (len + 1) 0 (by omega) (by omega)
            ·
              refine r_lload_n C dX7_digest_52 rfl 1 rfl ?_
              refine r_aload_n C dX7_digest_53 rfl 2 rfl ?_
              refine r_get C (Cn := RX7) (T := TX7) (N := 10) (id := 117) (by decide) inw_X7 rfl rfl 0 (by decide) rfl fl_X7_12 rfl dX7_digest_54 ?_
              refine r_get C (Cn := RX4) (T := TX4) (N := 6) (id := (gO 0)) (by simp only [gO, gN, gW, gL, gR, gH] <;> omega) inw_X4 (wF_O cs ad (by decide) _ _) rfl 5 (by decide) rfl fl_X7_145 rfl dX7_digest_57 ?_
              refine r_iload_n C dX7_digest_60 rfl 0 rfl ?_
              refine r_iald C (id := (gH 0)) (n := 4) (a := p) (by simp only [gO, gN, gW, gL, gR, gH] <;> omega) (wF_H cs ad (by decide) _ _) (by omega) (by decide) dX7_digest_61 ?_
              refine r_topi (w := (z (50 + p))) ((sg_gv qu1 hg hn8).2.2.2.2.2 p (by omega)) ?_
              refine r_i2l C dX7_digest_62 ?_
              refine r_pcallS_l (nA := 2) C (Nat.le_of_ble_eq_true rfl) [.long (hsC cT (fun p => (z (50 + p)).toInt64) (mvs z n (hsC cT (fun k => (ctz z (M.1 119) (M.1 120 3) n d k).toInt64) 2521 12) n) p), .long ((z (50 + p)).toInt64)] (c_X7_mix l D cs ad Mu1 (hsC cT (fun p => (z (50 + p)).toInt64) (mvs z n (hsC cT (fun k => (ctz z (M.1 119) (M.1 120 3) n d k).toInt64) 2521 12) n) p) ((z (50 + p)).toInt64) ) (tt_S ml_X7_270 st_X7_mix in_X7 co_X7_mix) ⟨rfl, rfl⟩ ⟨rfl, by decide, by decide, by decide⟩ ⟨Nat.le_of_ble_eq_true rfl, Nat.le_of_ble_eq_true rfl⟩ rfl rfl (Nat.le_of_ble_eq_true rfl) dX7_digest_63 ?_
              refine r_topl (w := hsC cT (fun p => (z (50 + p)).toInt64) (mvs z n (hsC cT (fun k => (ctz z (M.1 119) (M.1 120 3) n d k).toInt64) 2521 12) n) (p + 1)) (hsC_y (c := cT) (v := (fun p => (z (50 + p)).toInt64)) rfl) ?_
              refine r_lstore_n C [(1, .long (hsC cT (fun p => (z (50 + p)).toInt64) (mvs z n (hsC cT (fun k => (ctz z (M.1 119) (M.1 120 3) n d k).toInt64) 2521 12) n) (p + 1))), (3, .int (nI p)), (0, .ref (ad 117))] dX7_digest_66 rfl (by decide) rfl ?_
              refine r_iinc C (nI (p + 1)) [(3, .int (nI (p + 1))), (1, .long (hsC cT (fun p => (z (50 + p)).toInt64) (mvs z n (hsC cT (fun k => (ctz z (M.1 119) (M.1 120 3) n d k).toInt64) 2521 12) n) (p + 1))), (0, .ref (ad 117))] dX7_digest_67 (j := 1) rfl (inc_n p 1) (by decide) rfl ?_
              refine r_goto C 41 dX7_digest_70 (by decide) ?_
              refine r_lv (lv2 := [(3, .int (nI (p + 1))), (1, .long (hsC cT (fun p => (z (50 + p)).toInt64) (mvs z n (hsC cT (fun k => (ctz z (M.1 119) (M.1 120 3) n d k).toInt64) 2521 12) n) (p + 1))), (0, .ref (ad 117))]) [0, 1, 2] rfl ?_
              exact ih_p (p + 1) (by omega) (by omega)
        refine r_lv (lv2 := [(3, .int (nI 0)), (1, .long (hsC cT (fun p => (z (50 + p)).toInt64) (mvs z n (hsC cT (fun k => (ctz z (M.1 119) (M.1 120 3) n d k).toInt64) 2521 12) n) 0)), (0, .ref (ad 117))]) [0, 1, 2] rfl ?_
        exact Lp2 (d + 1) 0 (by omega) (by omega)
      ·
        refine r_lload_n C dX7_digest_16 rfl 1 rfl ?_
        refine r_aload_n C dX7_digest_17 rfl 2 rfl ?_
        refine r_iload_n C dX7_digest_18 rfl 0 rfl ?_
        refine r_npcallV_i (nA := 1) C hN (Nat.le_of_ble_eq_true rfl) [.int (nI k)] (c_X7_numberOf l D cs ad Mu1  z n d (sg_gv qu1 hg hn8) hn8 hm mk wt9 hk hw9 hsy qu1.2.2.2.1 qu1.2.2.2.2 qu1.2.2.1 (by rw [sg_id qu1 (by decide)]; exact hpm) (by rw [sg_id qu1 (by decide)]; exact htk) k (by omega)) (tt_V ml_X7_261 im_X7_numberOf se_X7_numberOf in_X7 co_X7_numberOf) ⟨rfl, rfl⟩ ⟨rfl, by decide, by decide, by decide⟩ ⟨Nat.le_of_ble_eq_true rfl, Nat.le_of_ble_eq_true rfl⟩ (by decide) rfl rfl rfl rfl rfl (Nat.le_of_ble_eq_true rfl) dX7_digest_19 ?_
        refine r_topi (w := (ctz z (M.1 119) (M.1 120 3) n d k)) (by rw [sg_id qu1 (by decide), sg_id qu1 (by decide)]) ?_
        refine r_i2l C dX7_digest_22 ?_
        refine r_pcallS_l (nA := 2) C (Nat.le_of_ble_eq_true rfl) [.long (hsC cT (fun k => (ctz z (M.1 119) (M.1 120 3) n d k).toInt64) 2521 k), .long ((ctz z (M.1 119) (M.1 120 3) n d k).toInt64)] (c_X7_mix l D cs ad Mu1 (hsC cT (fun k => (ctz z (M.1 119) (M.1 120 3) n d k).toInt64) 2521 k) ((ctz z (M.1 119) (M.1 120 3) n d k).toInt64) ) (tt_S ml_X7_270 st_X7_mix in_X7 co_X7_mix) ⟨rfl, rfl⟩ ⟨rfl, by decide, by decide, by decide⟩ ⟨Nat.le_of_ble_eq_true rfl, Nat.le_of_ble_eq_true rfl⟩ rfl rfl (Nat.le_of_ble_eq_true rfl) dX7_digest_23 ?_
        refine r_topl (w := hsC cT (fun k => (ctz z (M.1 119) (M.1 120 3) n d k).toInt64) 2521 (k + 1)) (hsC_y (c := cT) (v := (fun k => (ctz z (M.1 119) (M.1 120 3) n d k).toInt64)) rfl) ?_
        refine r_lstore_n C [(1, .long (hsC cT (fun k => (ctz z (M.1 119) (M.1 120 3) n d k).toInt64) 2521 (k + 1))), (3, .int (nI k)), (0, .ref (ad 117))] dX7_digest_26 rfl (by decide) rfl ?_
        refine r_iinc C (nI (k + 1)) [(3, .int (nI (k + 1))), (1, .long (hsC cT (fun k => (ctz z (M.1 119) (M.1 120 3) n d k).toInt64) 2521 (k + 1))), (0, .ref (ad 117))] dX7_digest_27 (j := 1) rfl (inc_n k 1) (by decide) rfl ?_
        refine r_goto C 10 dX7_digest_30 (by decide) ?_
        refine r_lv (lv2 := [(3, .int (nI (k + 1))), (1, .long (hsC cT (fun k => (ctz z (M.1 119) (M.1 120 3) n d k).toInt64) 2521 (k + 1))), (0, .ref (ad 117))]) [0, 1, 2] rfl ?_
        exact ih (k + 1) (by omega) (by omega)
  refine r_lv (lv2 := [(3, .int (nI 0)), (1, .long (hsC cT (fun k => (ctz z (M.1 119) (M.1 120 3) n d k).toInt64) 2521 0)), (0, .ref (ad 117))]) [0, 1, 2] rfl ?_
  exact Lp (12 + 1) 0 (by omega) (by omega)
