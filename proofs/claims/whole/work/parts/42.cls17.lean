/-! ===== the class: its calls, 2 (written by wip/whole/gen/cls17.py) ===== -/
/-- a double whose bits the class makes right -/
def bitsOK (x : UInt64) : Prop := (Op.cmpValue (FP.dcmp x 0) .g ≤ 0 ∧ x = 0) ∨ (¬ Op.cmpValue (FP.dcmp x 0) .g ≤ 0 ∧ ∃ K, K < 1000 ∧ (∀ j, j < K → ¬ 0 ≤ Op.cmpValue (FP.dcmp (dsc x j) FP.dconst1) .g) ∧ 0 ≤ Op.cmpValue (FP.dcmp (dsc x K) FP.dconst1) .g ∧ (∀ j, j < K → vf_n64 (FP.dmul (dsc x j) 4611686018427387904)) ∧ vf_n64 (FP.dsub (dsc x K) FP.dconst1) ∧ vf_n64 (FP.dmul (FP.dsub (dsc x K) FP.dconst1) 4841369599423283200) ∧ (1023 - lN K) <<< ((nI 52).toInt64 &&& 63) + FP.d2l (FP.dmul (FP.dsub (dsc x K) FP.dconst1) 4841369599423283200) = x.toInt64)
theorem metL {l : Launch} {y : MethodName} {ws : List Cond} {rm : Room} {Pc : Array Value → State → Prop} {p1 p2 : Int64 → Mm → Prop} {B : Mm → State → Prop} {A : Nat → Prop} {mc ms : Nat} {free : Addr → Prop} (h : Met l y ws rm Pc (va_Ql p1 B A) mc ms free) (hq : ∀ r M, p1 r M → p2 r M) : Met l y ws rm Pc (va_Ql p2 B A) mc ms free :=
  met_mono h (fun _ _ _ _ ⟨⟨r, u, h1, h2, h3⟩, h4⟩ => ⟨⟨r, u, h1, hq r u h2, h3⟩, h4⟩)
theorem c_X7_bitsOf (l : Launch) (D : va_G) (cs : Nat → ClassId) (ad : Nat → Nat) (M : Mm) (x : UInt64) (hx : bitsOK x) : ∀ sz : Nat, Met l yX7_bitsOf (.code yX7_bitsOf cX7_bitsOf 7 (some .long) :: TT) { frames := 0, cells := 0, slots := 0, locals := 0 } (va_Pc [.double x] (fun U9 => U9.heap.size = sz ∧ wB D cs ad (fA ad sz) M U9)) (va_Ql (fun r M2 => r = x.toInt64 ∧ M2 = M) (wB D cs ad (fA ad sz)) (fA ad sz)) 0 0 (fA ad sz) := by
  intro sz
  rcases hx with ⟨h0, e⟩ | ⟨h0, K, h1, h2, h3, h4, h5, h6, h7⟩
  · exact metL (c_X7_bitsOf0 l D cs ad M x h0 sz) (fun r M2 h => ⟨by rw [h.1, e]; rfl, h.2⟩)
  · exact metL (c_X7_bitsOf1 l D cs ad M x h0 K h1 h2 h3 h4 h5 h6 sz) (fun r M2 h => ⟨h.1.trans h7, h.2⟩)
set_option maxRecDepth 100000 in
set_option maxHeartbeats 4000000 in
theorem c_X7_labelByColors (l : Launch) (D : va_G) (cs : Nat → ClassId) (ad : Nat → Nat) (M : Mm) (z : Nat → Int32) (n d : Nat) (hg : gv M 0 (gH 0) z n d) (hn8 : n ≤ 8) (lt : Nat) (hlt : M.1 120 2 = nI lt) (hlt6 : lt < 6) (s9 : Nat) (hs : M.1 120 3 = nI s9) (hs6 : s9 ≤ 6) (hm : gm z n) (hsy : gs z n) (hn1 : 1 ≤ n) (hd4 : d ≤ 4) (hcd : cnK z n ≤ d) : ∀ sz : Nat, Met l yX7_labelByColors (.code yX7_labelByColors cX7_labelByColors 1 (some .int) :: TT) { frames := 41, cells := 0, slots := 0, locals := 1022 } (va_Pc [.ref (ad 117)] (fun U9 => U9.heap.size = sz ∧ wB D cs ad (fA ad sz) M U9 ∧ xX (fA ad sz) U9 U9.heap)) (va_Qi (fun r M2 => r = nI (cnK z n) ∧ ∃ M1 M3, fnP z n M M1 ∧ svP M1 M3 z n d lt s9 (M1.1 117 9) ∧ oG 0 M3 M2 ∧ gv M2 0 (gH 0) (rsK (lcT z (crs z n) (4 * n)) (lcH (cnK z n)) 4) n d) (wB D cs ad (fA ad sz)) (fA ad sz)) 0 0 (fA ad sz) := by
  refine sn_I (by decide) (Nat.le_of_ble_eq_true rfl) (fun κ C hN E => ?_)
  refine r_lv (lv2 := [(0, .ref (ad 117))]) [0] rfl ?_
  refine r_aload_n C dX7_labelByColors_0 rfl 0 rfl ?_
  refine r_get C (Cn := RX7) (T := TX7) (N := 10) (id := 117) (by decide) inw_X7 rfl rfl 5 (by decide) rfl fl_X7_41 rfl dX7_labelByColors_1 ?_
  refine r_aload_n C dX7_labelByColors_4 rfl 0 rfl ?_
  refine r_get C (Cn := RX7) (T := TX7) (N := 10) (id := 117) (by decide) inw_X7 rfl rfl 0 (by decide) rfl fl_X7_12 rfl dX7_labelByColors_5 ?_
  refine r_callV_v (nA := 1) C (Nat.le_of_ble_eq_true rfl) [.ref (ad (gO 0))] (c_X2_find l D cs ad M  z n d hg hn8 hm hsy hn1) (tt_V ml_X7_148 im_X2_find se_X2_find in_X2 co_X2_find) ⟨rfl, rfl⟩ ⟨rfl, by decide, by decide, by decide⟩ ⟨Nat.le_of_ble_eq_true rfl, Nat.le_of_ble_eq_true rfl⟩ (by decide) rfl rfl rfl rfl rfl (Nat.le_of_ble_eq_true rfl) dX7_labelByColors_8 (fun Mu1 qu1 => ?_)
  refine r_aload_n C dX7_labelByColors_11 rfl 0 rfl ?_
  refine r_get C (Cn := RX7) (T := TX7) (N := 10) (id := 117) (by decide) inw_X7 rfl rfl 5 (by decide) rfl fl_X7_41 rfl dX7_labelByColors_12 ?_
  refine r_get C (Cn := RX2) (T := TX2) (N := 2) (id := 125) (by decide) inw_X2 rfl rfl 1 (by decide) rfl fl_X7_152 rfl dX7_labelByColors_15 ?_
  refine r_topi (w := nI (cnK z n)) qu1.2.2.1 ?_
  refine r_aload_n C dX7_labelByColors_18 rfl 0 rfl ?_
  refine r_get C (Cn := RX7) (T := TX7) (N := 10) (id := 117) (by decide) inw_X7 rfl rfl 0 (by decide) rfl fl_X7_12 rfl dX7_labelByColors_19 ?_
  refine r_get C (Cn := RX4) (T := TX4) (N := 6) (id := (gO 0)) (by simp only [gO, gN, gW, gL, gR, gH] <;> omega) inw_X4 (wF_O cs ad (by decide) _ _) rfl 1 (by decide) rfl fl_X7_155 rfl dX7_labelByColors_22 ?_
  refine r_topi (w := nI d) (fn_gv qu1 hg hn8).2.1 ?_
  refine r_icmpN_le C 38 dX7_labelByColors_25 (by decide) (by omega) (by omega) (fun h25 => ?_) (fun h25 => ?_)
  ·
    refine r_aload_n C dX7_labelByColors_38 rfl 0 rfl ?_
    refine r_callV_v (nA := 0) C (Nat.le_of_ble_eq_true rfl) [] (c_X7_saveState l D cs ad Mu1  z n d (fn_gv qu1 hg hn8) hn8 lt (by rw [qu1.1 120 (by decide) (by decide)]; exact hlt) hlt6 s9 (by rw [qu1.1 120 (by decide) (by decide)]; exact hs) hs6) (tt_V ml_X7_80 im_X7_saveState se_X7_saveState in_X7 co_X7_saveState) ⟨rfl, rfl⟩ ⟨rfl, by decide, by decide, by decide⟩ ⟨Nat.le_of_ble_eq_true rfl, Nat.le_of_ble_eq_true rfl⟩ (by decide) rfl rfl rfl rfl rfl (Nat.le_of_ble_eq_true rfl) dX7_labelByColors_39 (fun Mu2 qu2 => ?_)
    refine r_aload_n C dX7_labelByColors_42 rfl 0 rfl ?_
    refine r_get C (Cn := RX7) (T := TX7) (N := 10) (id := 117) (by decide) inw_X7 rfl rfl 0 (by decide) rfl fl_X7_12 rfl dX7_labelByColors_43 ?_
    refine r_aload_n C dX7_labelByColors_46 rfl 0 rfl ?_
    refine r_get C (Cn := RX7) (T := TX7) (N := 10) (id := 117) (by decide) inw_X7 rfl rfl 5 (by decide) rfl fl_X7_41 rfl dX7_labelByColors_47 ?_
    refine r_callV_v (nA := 1) C (Nat.le_of_ble_eq_true rfl) [.ref (ad 125)] (c_X4_labelBy l D cs ad Mu2  z n d (sv_gv qu2 hlt6 (fn_gv qu1 hg hn8) hn8 (by decide) (by decide)) hn8 (crs z n) (fun v hv => by rw [qu2.2.2.2.2.2.1 126 (by have := nx6_lt hlt6; omega) (by decide) (by decide)]; exact qu1.2.2.2 v hv) (cnK z n) ((congrFun (qu2.2.2.2.2.2.1 125 (by have := nx6_lt hlt6; omega) (by decide) (by decide)) 1).trans qu1.2.2.1) (by omega)) (tt_V ml_X7_160 im_X4_labelBy se_X4_labelBy in_X4 co_X4_labelBy) ⟨rfl, rfl⟩ ⟨rfl, by decide, by decide, by decide⟩ ⟨Nat.le_of_ble_eq_true rfl, Nat.le_of_ble_eq_true rfl⟩ (by simp only [gO, gN, gW, gL, gR, gH] <;> omega) (wF_O cs ad (by decide) _ _) rfl rfl rfl rfl (Nat.le_of_ble_eq_true rfl) dX7_labelByColors_50 (fun Mu3 qu3 => ?_)
    refine r_aload_n C dX7_labelByColors_53 rfl 0 rfl ?_
    refine r_get C (Cn := RX7) (T := TX7) (N := 10) (id := 117) (by decide) inw_X7 rfl rfl 5 (by decide) rfl fl_X7_41 rfl dX7_labelByColors_54 ?_
    refine r_get C (Cn := RX2) (T := TX2) (N := 2) (id := 125) (by decide) inw_X2 rfl rfl 1 (by decide) rfl fl_X7_152 rfl dX7_labelByColors_57 ?_
    refine r_topi (w := nI (cnK z n)) ((congrFun (qu3.1.1 125 (by decide)) 1).trans ((congrFun (qu2.2.2.2.2.2.1 125 (by have := nx6_lt hlt6; omega) (by decide) (by decide)) 1).trans qu1.2.2.1)) ?_
    exact E 0 _ _ _ _ (Nat.le_of_ble_eq_true rfl) dX7_labelByColors_60 (⟨rfl, _, _, qu1, qu2, qu3.1, qu3.2⟩)
  ·
    exfalso; omega
set_option maxRecDepth 100000 in
set_option maxHeartbeats 4000000 in
theorem c_X7_labelByColorsX (l : Launch) (D : va_G) (cs : Nat → ClassId) (ad : Nat → Nat) (hfl : l.stackTraces = false) (M : Mm) (z : Nat → Int32) (n d : Nat) (hg : gv M 0 (gH 0) z n d) (hn8 : n ≤ 8) (hm : gm z n) (hsy : gs z n) (hn1 : 1 ≤ n) (hd4 : d ≤ 4) (hcl : cnK z n ≤ 100) (hcd : ¬ cnK z n ≤ d) : ∀ sz : Nat, vx_Met l yX7_labelByColors (.code yX7_labelByColors cX7_labelByColors 1 (some .int) :: TT) { frames := 41, cells := 1, slots := 6, locals := 1022 } (va_Pc [.ref (ad 117)] (fun U9 => U9.heap.size = sz ∧ wB D cs ad (fA ad sz) M U9 ∧ xX (fA ad sz) U9 U9.heap)) (va_Qi (fun _ (_ : Mm) => False) (wB D cs ad (fA ad sz)) (fA ad sz)) (vx_X (fun M2 => fnP z n M M2) (fun E9 M2 t => E9 = xQS ∧ wB D cs ad (fA ad sz) M2 t) (fA ad sz)) 1 6 (fA ad sz) := by
  refine sx_I hfl (by decide) (Nat.le_of_ble_eq_true rfl) (fun κ C hN X => ?_)
  refine r_lv (lv2 := [(0, .ref (ad 117))]) [0] rfl ?_
  refine r_aload_n C dX7_labelByColors_0 rfl 0 rfl ?_
  refine r_get C (Cn := RX7) (T := TX7) (N := 10) (id := 117) (by decide) inw_X7 rfl rfl 5 (by decide) rfl fl_X7_41 rfl dX7_labelByColors_1 ?_
  refine r_aload_n C dX7_labelByColors_4 rfl 0 rfl ?_
  refine r_get C (Cn := RX7) (T := TX7) (N := 10) (id := 117) (by decide) inw_X7 rfl rfl 0 (by decide) rfl fl_X7_12 rfl dX7_labelByColors_5 ?_
  refine r_callV_v (nA := 1) C (Nat.le_of_ble_eq_true rfl) [.ref (ad (gO 0))] (c_X2_find l D cs ad M  z n d hg hn8 hm hsy hn1) (tt_V ml_X7_148 im_X2_find se_X2_find in_X2 co_X2_find) ⟨rfl, rfl⟩ ⟨rfl, by decide, by decide, by decide⟩ ⟨Nat.le_of_ble_eq_true rfl, Nat.le_of_ble_eq_true rfl⟩ (by decide) rfl rfl rfl rfl rfl (Nat.le_of_ble_eq_true rfl) dX7_labelByColors_8 (fun Mu1 qu1 => ?_)
  refine r_aload_n C dX7_labelByColors_11 rfl 0 rfl ?_
  refine r_get C (Cn := RX7) (T := TX7) (N := 10) (id := 117) (by decide) inw_X7 rfl rfl 5 (by decide) rfl fl_X7_41 rfl dX7_labelByColors_12 ?_
  refine r_get C (Cn := RX2) (T := TX2) (N := 2) (id := 125) (by decide) inw_X2 rfl rfl 1 (by decide) rfl fl_X7_152 rfl dX7_labelByColors_15 ?_
  refine r_topi (w := nI (cnK z n)) qu1.2.2.1 ?_
  refine r_aload_n C dX7_labelByColors_18 rfl 0 rfl ?_
  refine r_get C (Cn := RX7) (T := TX7) (N := 10) (id := 117) (by decide) inw_X7 rfl rfl 0 (by decide) rfl fl_X7_12 rfl dX7_labelByColors_19 ?_
  refine r_get C (Cn := RX4) (T := TX4) (N := 6) (id := (gO 0)) (by simp only [gO, gN, gW, gL, gR, gH] <;> omega) inw_X4 (wF_O cs ad (by decide) _ _) rfl 1 (by decide) rfl fl_X7_155 rfl dX7_labelByColors_22 ?_
  refine r_topi (w := nI d) (fn_gv qu1 hg hn8).2.1 ?_
  refine r_icmpN_le C 38 dX7_labelByColors_25 (by decide) (by omega) (by omega) (fun h25 => ?_) (fun h25 => ?_)
  · exact absurd h25 hcd
  ·
    exact r_throw C hN X (by decide) (show (158, "there are more colors than the dimension") ∈ xTx from List.mem_of_getElem? (i := 10) rfl) xl_S xi_S xw_S xg_S dX7_labelByColors_28 dX7_labelByColors_31 dX7_labelByColors_32 dX7_labelByColors_34 dX7_labelByColors_37 (Nat.le_of_ble_eq_true rfl) (Nat.le_of_ble_eq_true rfl) qu1
set_option maxRecDepth 100000 in
set_option maxHeartbeats 4000000 in
theorem c_X7_takeHandle (l : Launch) (D : va_G) (cs : Nat → ClassId) (ad : Nat → Nat) (M : Mm) (z : Nat → Int32) (n d : Nat) (hg : gv M 0 (gH 0) z n d) (hn8 : n ≤ 8) (lt : Nat) (hlt : M.1 120 2 = nI lt) (hlt6 : lt < 6) (s9 : Nat) (hs : M.1 120 3 = nI s9) (hs6 : s9 ≤ 6) (hm : gm z n) (hd4 : d ≤ 4) (size bb : Nat) (hbb : 2 * size + 1 = bb) (hs1 : 1 ≤ size) (hs2 : size ≤ 2) (mk : Nat → Nat) (hk : gk z n mk) (hz0 : ∀ p, d ≤ p → p < 4 → z (50 + p) = nI 0) (wt U : Nat → Nat) (S : Nat → Nat → Nat) (H : Nat → Nat) (hBB : lbHyp z n d bb size wt U S H) (hpB : ∀ c, c < bb ^ d → upR (hnR z d c bb size d) n = -1 → hpos n wt U (H c)) : ∀ sz : Nat, Met l yX7_takeHandle (.code yX7_takeHandle cX7_takeHandle 2 (some .int) :: TT) { frames := 5, cells := 0, slots := 0, locals := 124 } (va_Pc [.ref (ad 117), .int (nI size)] (fun U9 => U9.heap.size = sz ∧ wB D cs ad (fA ad sz) M U9 ∧ xX (fA ad sz) U9 U9.heap)) (va_Qi (fun r M2 => ∃ M1 M3, rnA z n d bb size wt U S H M M1 ∧ svP M1 M3 z n d lt s9 (M1.1 117 9) ∧ ((0 < (lbF z n d bb size wt U S H).2.1 ∧ r = nI 1 ∧ M2 = mA M3 (gH 0) (va_cpy (M3.1 131) (M3.1 (gH 0)) 0 0 4)) ∨ (¬ 0 < (lbF z n d bb size wt U S H).2.1 ∧ r = nI 0 ∧ M2 = M3))) (wB D cs ad (fA ad sz)) (fA ad sz)) 0 0 (fA ad sz) := by
  refine sn_I (by decide) (Nat.le_of_ble_eq_true rfl) (fun κ C hN E => ?_)
  refine r_lv (lv2 := [(0, .ref (ad 117)), (1, .int (nI size))]) [0, 1] rfl ?_
  refine r_iload_n C dX7_takeHandle_0 rfl 1 rfl ?_
  refine r_pcallS_v (nA := 1) C (Nat.le_of_ble_eq_true rfl) [.int (nI size)] (c_X7_checkSize l D cs ad M  size hs1 hs2) (tt_S ml_X7_164 st_X7_checkSize in_X7 co_X7_checkSize) ⟨rfl, rfl⟩ ⟨rfl, by decide, by decide, by decide⟩ ⟨Nat.le_of_ble_eq_true rfl, Nat.le_of_ble_eq_true rfl⟩ rfl rfl (Nat.le_of_ble_eq_true rfl) dX7_takeHandle_1 ?_
  refine r_aload_n C dX7_takeHandle_4 rfl 0 rfl ?_
  refine r_get C (Cn := RX7) (T := TX7) (N := 10) (id := 117) (by decide) inw_X7 rfl rfl 8 (by decide) rfl fl_X7_62 rfl dX7_takeHandle_5 ?_
  refine r_aload_n C dX7_takeHandle_8 rfl 0 rfl ?_
  refine r_get C (Cn := RX7) (T := TX7) (N := 10) (id := 117) (by decide) inw_X7 rfl rfl 0 (by decide) rfl fl_X7_12 rfl dX7_takeHandle_9 ?_
  refine r_iload_n C dX7_takeHandle_12 rfl 1 rfl ?_
  refine r_ncallV_v (nA := 2) C hN (Nat.le_of_ble_eq_true rfl) [.ref (ad (gO 0)), .int (nI size)] (c_X5_runA l D cs ad M  z n d hg hn8 hm hd4 size bb hbb hs1 hs2 mk hk hz0 wt U S H hBB hpB) (tt_V ml_X7_167 im_X5_run se_X5_run in_X5 co_X5_run) ⟨rfl, rfl⟩ ⟨rfl, by decide, by decide, by decide⟩ ⟨Nat.le_of_ble_eq_true rfl, Nat.le_of_ble_eq_true rfl⟩ (by decide) rfl rfl rfl rfl rfl (Nat.le_of_ble_eq_true rfl) dX7_takeHandle_13 (fun Mu1 qu1 => ?_)
  refine r_aload_n C dX7_takeHandle_16 rfl 0 rfl ?_
  refine r_callV_v (nA := 0) C (Nat.le_of_ble_eq_true rfl) [] (c_X7_saveState l D cs ad Mu1  z n d (rn_gv qu1 hg hn8) hn8 lt (by rw [(qu1.1 120 (by decide)).1]; exact hlt) hlt6 s9 (by rw [(qu1.1 120 (by decide)).1]; exact hs) hs6) (tt_V ml_X7_80 im_X7_saveState se_X7_saveState in_X7 co_X7_saveState) ⟨rfl, rfl⟩ ⟨rfl, by decide, by decide, by decide⟩ ⟨Nat.le_of_ble_eq_true rfl, Nat.le_of_ble_eq_true rfl⟩ (by decide) rfl rfl rfl rfl rfl (Nat.le_of_ble_eq_true rfl) dX7_takeHandle_17 (fun Mu2 qu2 => ?_)
  have e132 : Mu2.1 132 = Mu1.1 132 := qu2.2.2.2.2.2.1 132 (by have := nx6_lt hlt6; omega) (by decide) (by decide)
  by_cases hF : 0 < (lbF z n d bb size wt U S H).2.1
  ·
    refine r_aload_n C dX7_takeHandle_20 rfl 0 rfl ?_
    refine r_get C (Cn := RX7) (T := TX7) (N := 10) (id := 117) (by decide) inw_X7 rfl rfl 8 (by decide) rfl fl_X7_62 rfl dX7_takeHandle_21 ?_
    refine r_get C (Cn := RX5) (T := TX5) (N := 4) (id := 130) (by decide) inw_X5 rfl rfl 1 (by decide) rfl fl_X7_171 rfl dX7_takeHandle_24 ?_
    refine r_get C (Cn := RX0) (T := TX0) (N := 4) (id := 132) (by decide) inw_X0 rfl rfl 0 (by decide) rfl fl_X7_174 rfl dX7_takeHandle_27 ?_
    refine r_topi (w := bI true) ((congrFun e132 0).trans ((qu1.2.1 hF).1)) ?_
    refine r_ifB_ne C 35 dX7_takeHandle_30 (by decide) (fun h30 => ?_) (fun h30 => ?_)
    ·
      refine r_aload_n C dX7_takeHandle_35 rfl 0 rfl ?_
      refine r_get C (Cn := RX7) (T := TX7) (N := 10) (id := 117) (by decide) inw_X7 rfl rfl 8 (by decide) rfl fl_X7_62 rfl dX7_takeHandle_36 ?_
      refine r_get C (Cn := RX5) (T := TX5) (N := 4) (id := 130) (by decide) inw_X5 rfl rfl 0 (by decide) rfl fl_X7_178 rfl dX7_takeHandle_39 ?_
      refine r_iconst C (nI 0) dX7_takeHandle_42 (by decide) ?_
      refine r_aload_n C dX7_takeHandle_43 rfl 0 rfl ?_
      refine r_get C (Cn := RX7) (T := TX7) (N := 10) (id := 117) (by decide) inw_X7 rfl rfl 0 (by decide) rfl fl_X7_12 rfl dX7_takeHandle_44 ?_
      refine r_get C (Cn := RX4) (T := TX4) (N := 6) (id := (gO 0)) (by simp only [gO, gN, gW, gL, gR, gH] <;> omega) inw_X4 (wF_O cs ad (by decide) _ _) rfl 5 (by decide) rfl fl_X7_145 rfl dX7_takeHandle_47 ?_
      refine r_iconst C (nI 0) dX7_takeHandle_50 (by decide) ?_
      refine r_iconst C (nI 4) dX7_takeHandle_51 (by decide) ?_
      refine r_copyi C (id0 := 131) (id1 := (gH 0)) (n0 := 4) (n1 := 4) (a := 0) (b := 0) (n := 4) (by decide) (by simp only [gO, gN, gW, gL, gR, gH] <;> omega) rfl (fun _ => (wF_H cs ad (by decide) _ _)) (by decide) (by decide) (by decide) (by decide) ml_X7_181 na_acopy st_acopy in_J10 (Nat.le_of_ble_eq_true rfl) (Nat.le_of_ble_eq_true rfl) dX7_takeHandle_52 ?_
      refine r_iconst C (nI 1) dX7_takeHandle_55 (by decide) ?_
      exact E 0 _ _ _ _ (Nat.le_of_ble_eq_true rfl) dX7_takeHandle_56 (⟨_, _, qu1, qu2, Or.inl ⟨hF, rfl, rfl⟩⟩)
    · exact absurd (h30.symm.trans (rfl : true = true)) (by decide)
  ·
    refine r_aload_n C dX7_takeHandle_20 rfl 0 rfl ?_
    refine r_get C (Cn := RX7) (T := TX7) (N := 10) (id := 117) (by decide) inw_X7 rfl rfl 8 (by decide) rfl fl_X7_62 rfl dX7_takeHandle_21 ?_
    refine r_get C (Cn := RX5) (T := TX5) (N := 4) (id := 130) (by decide) inw_X5 rfl rfl 1 (by decide) rfl fl_X7_171 rfl dX7_takeHandle_24 ?_
    refine r_get C (Cn := RX0) (T := TX0) (N := 4) (id := 132) (by decide) inw_X0 rfl rfl 0 (by decide) rfl fl_X7_174 rfl dX7_takeHandle_27 ?_
    refine r_topi (w := bI false) ((congrFun e132 0).trans ((qu1.2.2.1 hF).1)) ?_
    refine r_ifB_ne C 35 dX7_takeHandle_30 (by decide) (fun h30 => ?_) (fun h30 => ?_)
    · exact absurd (h30.symm.trans (rfl : false = false)) (by decide)
    ·
      refine r_iconst C (nI 0) dX7_takeHandle_33 (by decide) ?_
      exact E 0 _ _ _ _ (Nat.le_of_ble_eq_true rfl) dX7_takeHandle_34 (⟨_, _, qu1, qu2, Or.inr ⟨hF, rfl, rfl⟩⟩)
set_option maxRecDepth 100000 in
set_option maxHeartbeats 4000000 in
theorem c_X7_takeHandleX (l : Launch) (D : va_G) (cs : Nat → ClassId) (ad : Nat → Nat) (hfl : l.stackTraces = false) (M : Mm) (x : Int32) (hbad : wit x (nI 1) (nI 2) = false) : ∀ sz : Nat, vx_Met l yX7_takeHandle (.code yX7_takeHandle cX7_takeHandle 2 (some .int) :: TT) { frames := 7, cells := 1, slots := 6, locals := 112 } (va_Pc [.ref (ad 117), .int x] (fun U9 => U9.heap.size = sz ∧ wB D cs ad (fA ad sz) M U9 ∧ xX (fA ad sz) U9 U9.heap)) (va_Qi (fun _ (_ : Mm) => False) (wB D cs ad (fA ad sz)) (fA ad sz)) (vx_X (fun M2 => M2 = M) (fun E9 M2 t => E9 = xQA ∧ wB D cs ad (fA ad sz) M2 t) (fA ad sz)) 1 6 (fA ad sz) := by
  refine sx_I hfl (by decide) (Nat.le_of_ble_eq_true rfl) (fun κ C hN X => ?_)
  refine r_lv (lv2 := [(0, .ref (ad 117)), (1, .int x)]) [0, 1] rfl ?_
  refine r_iload_n C dX7_takeHandle_0 rfl 1 rfl ?_
  exact r_xcallS_v (nA := 1) C hN X [.int x] (c_X7_checkSizeX l D cs ad hfl M  x hbad) (tt_S ml_X7_164 st_X7_checkSize in_X7 co_X7_checkSize) ⟨rfl, rfl⟩ ⟨rfl, by decide, by decide, by decide⟩ ⟨Nat.le_of_ble_eq_true rfl, Nat.le_of_ble_eq_true rfl⟩ rfl rfl (Nat.le_of_ble_eq_true rfl) dX7_takeHandle_1 (fun _ h => h)
set_option maxRecDepth 100000 in
set_option maxHeartbeats 4000000 in
theorem c_X7_append (l : Launch) (D : va_G) (cs : Nat → ClassId) (ad : Nat → Nat) (M : Mm) (len : Nat) (hlen : M.1 123 1 = nI len) (hl60 : len ≤ 60) (c : Nat) (hc1 : 33 ≤ c) (hc2 : c ≤ 126) (hlt : len < 60) : ∀ sz : Nat, Met l yX7_append (.code yX7_append cX7_append 2 (some .int) :: TT) { frames := 0, cells := 0, slots := 0, locals := 0 } (va_Pc [.ref (ad 117), .int (nI c)] (fun U9 => U9.heap.size = sz ∧ wB D cs ad (fA ad sz) M U9 ∧ xX (fA ad sz) U9 U9.heap)) (va_Qi (fun r M2 => r = nI (len + 1) ∧ M2 = mI (mI M 124 len (nI c)) 123 1 (nI (len + 1))) (wB D cs ad (fA ad sz)) (fA ad sz)) 0 0 (fA ad sz) := by
  refine sn_I (by decide) (Nat.le_of_ble_eq_true rfl) (fun κ C hN E => ?_)
  refine r_lv (lv2 := [(0, .ref (ad 117)), (1, .int (nI c))]) [0, 1] rfl ?_
  refine r_iload_n C dX7_append_0 rfl 1 rfl ?_
  refine r_bipush C (nI 33) dX7_append_1 (by decide) ?_
  refine r_icmpN_lt C 12 dX7_append_3 (by decide) (by omega) (by omega) (fun h3 => ?_) (fun h3 => ?_)
  ·
    exfalso; omega
  ·
    refine r_iload_n C dX7_append_6 rfl 1 rfl ?_
    refine r_bipush C (nI 126) dX7_append_7 (by decide) ?_
    refine r_icmpN_le C 22 dX7_append_9 (by decide) (by omega) (by omega) (fun h9 => ?_) (fun h9 => ?_)
    ·
      refine r_aload_n C dX7_append_22 rfl 0 rfl ?_
      refine r_get C (Cn := RX7) (T := TX7) (N := 10) (id := 117) (by decide) inw_X7 rfl rfl 4 (by decide) rfl fl_X7_34 rfl dX7_append_23 ?_
      refine r_get C (Cn := RX3) (T := TX3) (N := 2) (id := 123) (by decide) inw_X3 rfl rfl 1 (by decide) rfl fl_X7_189 rfl dX7_append_26 ?_
      refine r_topi (w := nI len) hlen ?_
      refine r_bipush C (nI 60) dX7_append_29 (by decide) ?_
      refine r_icmpN_lt C 44 dX7_append_31 (by decide) (by omega) (by omega) (fun h31 => ?_) (fun h31 => ?_)
      ·
        refine r_aload_n C dX7_append_44 rfl 0 rfl ?_
        refine r_get C (Cn := RX7) (T := TX7) (N := 10) (id := 117) (by decide) inw_X7 rfl rfl 4 (by decide) rfl fl_X7_34 rfl dX7_append_45 ?_
        refine r_get C (Cn := RX3) (T := TX3) (N := 2) (id := 123) (by decide) inw_X3 rfl rfl 0 (by decide) rfl fl_X7_194 rfl dX7_append_48 ?_
        refine r_aload_n C dX7_append_51 rfl 0 rfl ?_
        refine r_get C (Cn := RX7) (T := TX7) (N := 10) (id := 117) (by decide) inw_X7 rfl rfl 4 (by decide) rfl fl_X7_34 rfl dX7_append_52 ?_
        refine r_get C (Cn := RX3) (T := TX3) (N := 2) (id := 123) (by decide) inw_X3 rfl rfl 1 (by decide) rfl fl_X7_189 rfl dX7_append_55 ?_
        refine r_topi (w := nI len) hlen ?_
        refine r_iload_n C dX7_append_58 rfl 1 rfl ?_
        refine r_i2c C dX7_append_59 ?_
        refine r_topi (w := nI c) (i2c_n hc2) ?_
        refine r_cast C (id := 124) (n := 60) (a := len) (by decide) (fun _ => rfl) (by omega) (by decide) (nar_c hc2) dX7_append_60 ?_
        refine r_aload_n C dX7_append_61 rfl 0 rfl ?_
        refine r_get C (Cn := RX7) (T := TX7) (N := 10) (id := 117) (by decide) inw_X7 rfl rfl 4 (by decide) rfl fl_X7_34 rfl dX7_append_62 ?_
        refine r_dup C dX7_append_65 rfl ?_
        refine r_get C (Cn := RX3) (T := TX3) (N := 2) (id := 123) (by decide) inw_X3 rfl rfl 1 (by decide) rfl fl_X7_189 rfl dX7_append_66 ?_
        refine r_topi (w := (M.1 123 1)) (by rw [mI_ne _ (show 123 ≠ 124 from (by decide))]) ?_
        refine r_topi (w := nI len) hlen ?_
        refine r_iconst C (nI 1) dX7_append_69 (by decide) ?_
        refine r_iadd C dX7_append_70 ?_
        refine r_topi (nI_add len 1) ?_
        refine r_put C (M2 := (mI (mI M 124 len (nI c)) 123 1 (nI (len + 1)))) (Cn := RX3) (T := TX3) (N := 2) (id := 123) (by decide) inw_X3 tyX3_ok nmX3 rfl rfl 1 (by decide) rfl fl_X7_189 rfl rfl (rfl) (Nat.le_of_ble_eq_true rfl) (fun j hj => ⟨mI_ne _ hj, rfl⟩) rfl dX7_append_71 ?_
        refine r_aload_n C dX7_append_74 rfl 0 rfl ?_
        refine r_get C (Cn := RX7) (T := TX7) (N := 10) (id := 117) (by decide) inw_X7 rfl rfl 4 (by decide) rfl fl_X7_34 rfl dX7_append_75 ?_
        refine r_get C (Cn := RX3) (T := TX3) (N := 2) (id := 123) (by decide) inw_X3 rfl rfl 1 (by decide) rfl fl_X7_189 rfl dX7_append_78 ?_
        refine r_topi (w := nI (len + 1)) (by rw [mI_eq, upd_e]) ?_
        exact E 0 _ _ _ _ (Nat.le_of_ble_eq_true rfl) dX7_append_81 (⟨rfl, rfl⟩)
      ·
        exfalso; omega
    ·
      exfalso; omega
set_option maxRecDepth 100000 in
set_option maxHeartbeats 4000000 in
theorem c_X7_appendX (l : Launch) (D : va_G) (cs : Nat → ClassId) (ad : Nat → Nat) (hfl : l.stackTraces = false) (M : Mm) (x : Int32) (hbad : wit x (nI 33) (nI 126) = false) : ∀ sz : Nat, vx_Met l yX7_append (.code yX7_append cX7_append 2 (some .int) :: TT) { frames := 6, cells := 1, slots := 6, locals := 92 } (va_Pc [.ref (ad 117), .int x] (fun U9 => U9.heap.size = sz ∧ wB D cs ad (fA ad sz) M U9 ∧ xX (fA ad sz) U9 U9.heap)) (va_Qi (fun _ (_ : Mm) => False) (wB D cs ad (fA ad sz)) (fA ad sz)) (vx_X (fun M2 => M2 = M) (fun E9 M2 t => E9 = xQA ∧ wB D cs ad (fA ad sz) M2 t) (fA ad sz)) 1 6 (fA ad sz) := by
  refine sx_I hfl (by decide) (Nat.le_of_ble_eq_true rfl) (fun κ C hN X => ?_)
  refine r_lv (lv2 := [(0, .ref (ad 117)), (1, .int x)]) [0, 1] rfl ?_
  refine r_iload_n C dX7_append_0 rfl 1 rfl ?_
  refine r_bipush C (nI 33) dX7_append_1 (by decide) ?_
  refine r_icmp_lt C 12 dX7_append_3 (by decide) (fun h3 => ?_) (fun h3 => ?_)
  ·
    exact r_throw C hN X (by decide) (show (187, "no such character") ∈ xTx from List.mem_of_getElem? (i := 12) rfl) xl_A xi_A xw_A xg_A dX7_append_12 dX7_append_15 dX7_append_16 dX7_append_18 dX7_append_21 (Nat.le_of_ble_eq_true rfl) (Nat.le_of_ble_eq_true rfl) rfl
  ·
    refine r_iload_n C dX7_append_6 rfl 1 rfl ?_
    refine r_bipush C (nI 126) dX7_append_7 (by decide) ?_
    refine r_icmp_le C 22 dX7_append_9 (by decide) (fun h9 => ?_) (fun h9 => ?_)
    ·
      exact (wit_nn hbad h3 h9).elim
    ·
      exact r_throw C hN X (by decide) (show (187, "no such character") ∈ xTx from List.mem_of_getElem? (i := 12) rfl) xl_A xi_A xw_A xg_A dX7_append_12 dX7_append_15 dX7_append_16 dX7_append_18 dX7_append_21 (Nat.le_of_ble_eq_true rfl) (Nat.le_of_ble_eq_true rfl) rfl
set_option maxRecDepth 100000 in
set_option maxHeartbeats 4000000 in
theorem c_X7_appendY (l : Launch) (D : va_G) (cs : Nat → ClassId) (ad : Nat → Nat) (hfl : l.stackTraces = false) (M : Mm) (hlen : M.1 123 1 = nI 60) (c : Nat) (hc1 : 33 ≤ c) (hc2 : c ≤ 126) : ∀ sz : Nat, vx_Met l yX7_append (.code yX7_append cX7_append 2 (some .int) :: TT) { frames := 6, cells := 1, slots := 6, locals := 92 } (va_Pc [.ref (ad 117), .int (nI c)] (fun U9 => U9.heap.size = sz ∧ wB D cs ad (fA ad sz) M U9 ∧ xX (fA ad sz) U9 U9.heap)) (va_Qi (fun _ (_ : Mm) => False) (wB D cs ad (fA ad sz)) (fA ad sz)) (vx_X (fun M2 => M2 = M) (fun E9 M2 t => E9 = xQS ∧ wB D cs ad (fA ad sz) M2 t) (fA ad sz)) 1 6 (fA ad sz) := by
  refine sx_I hfl (by decide) (Nat.le_of_ble_eq_true rfl) (fun κ C hN X => ?_)
  refine r_lv (lv2 := [(0, .ref (ad 117)), (1, .int (nI c))]) [0, 1] rfl ?_
  refine r_iload_n C dX7_append_0 rfl 1 rfl ?_
  refine r_bipush C (nI 33) dX7_append_1 (by decide) ?_
  refine r_icmpN_lt C 12 dX7_append_3 (by decide) (by omega) (by omega) (fun h3 => ?_) (fun h3 => ?_)
  · exact absurd h3 (by omega)
  ·
    refine r_iload_n C dX7_append_6 rfl 1 rfl ?_
    refine r_bipush C (nI 126) dX7_append_7 (by decide) ?_
    refine r_icmpN_le C 22 dX7_append_9 (by decide) (by omega) (by omega) (fun h9 => ?_) (fun h9 => ?_)
    ·
      refine r_aload_n C dX7_append_22 rfl 0 rfl ?_
      refine r_get C (Cn := RX7) (T := TX7) (N := 10) (id := 117) (by decide) inw_X7 rfl rfl 4 (by decide) rfl fl_X7_34 rfl dX7_append_23 ?_
      refine r_get C (Cn := RX3) (T := TX3) (N := 2) (id := 123) (by decide) inw_X3 rfl rfl 1 (by decide) rfl fl_X7_189 rfl dX7_append_26 ?_
      refine r_topi (w := nI 60) hlen ?_
      refine r_bipush C (nI 60) dX7_append_29 (by decide) ?_
      refine r_icmpN_lt C 44 dX7_append_31 (by decide) (by omega) (by omega) (fun h31 => ?_) (fun h31 => ?_)
      · exact absurd h31 (by decide)
      ·
        exact r_throw C hN X (by decide) (show (192, "the buffer is full") ∈ xTx from List.mem_of_getElem? (i := 13) rfl) xl_S xi_S xw_S xg_S dX7_append_34 dX7_append_37 dX7_append_38 dX7_append_40 dX7_append_43 (Nat.le_of_ble_eq_true rfl) (Nat.le_of_ble_eq_true rfl) rfl
    · exact absurd hc2 h9
set_option maxRecDepth 100000 in
set_option maxHeartbeats 4000000 in
theorem c_X7_clearBuffer (l : Launch) (D : va_G) (cs : Nat → ClassId) (ad : Nat → Nat) (M : Mm) (len : Nat) (hlen : M.1 123 1 = nI len) (hl60 : len ≤ 60) : ∀ sz : Nat, Met l yX7_clearBuffer (.code yX7_clearBuffer cX7_clearBuffer 2 (some .int) :: TT) { frames := 0, cells := 0, slots := 0, locals := 0 } (va_Pc [.ref (ad 117)] (fun U9 => U9.heap.size = sz ∧ wB D cs ad (fA ad sz) M U9 ∧ xX (fA ad sz) U9 U9.heap)) (va_Qi (fun r M2 => r = nI len ∧ M2 = mI M 123 1 (nI 0)) (wB D cs ad (fA ad sz)) (fA ad sz)) 0 0 (fA ad sz) := by
  refine sn_I (by decide) (Nat.le_of_ble_eq_true rfl) (fun κ C hN E => ?_)
  refine r_lv (lv2 := [(0, .ref (ad 117))]) [0] rfl ?_
  refine r_aload_n C dX7_clearBuffer_0 rfl 0 rfl ?_
  refine r_get C (Cn := RX7) (T := TX7) (N := 10) (id := 117) (by decide) inw_X7 rfl rfl 4 (by decide) rfl fl_X7_34 rfl dX7_clearBuffer_1 ?_
  refine r_get C (Cn := RX3) (T := TX3) (N := 2) (id := 123) (by decide) inw_X3 rfl rfl 1 (by decide) rfl fl_X7_189 rfl dX7_clearBuffer_4 ?_
  refine r_topi (w := nI len) hlen ?_
  refine r_istore_n C [(1, .int (nI len)), (0, .ref (ad 117))] dX7_clearBuffer_7 rfl (by decide) rfl ?_
  refine r_aload_n C dX7_clearBuffer_8 rfl 1 rfl ?_
  refine r_get C (Cn := RX7) (T := TX7) (N := 10) (id := 117) (by decide) inw_X7 rfl rfl 4 (by decide) rfl fl_X7_34 rfl dX7_clearBuffer_9 ?_
  refine r_iconst C (nI 0) dX7_clearBuffer_12 (by decide) ?_
  refine r_put C (M2 := (mI M 123 1 (nI 0))) (Cn := RX3) (T := TX3) (N := 2) (id := 123) (by decide) inw_X3 tyX3_ok nmX3 rfl rfl 1 (by decide) rfl fl_X7_189 rfl rfl (rfl) (Nat.le_of_ble_eq_true rfl) (fun j hj => ⟨mI_ne _ hj, rfl⟩) rfl dX7_clearBuffer_13 ?_
  refine r_iload_n C dX7_clearBuffer_16 rfl 0 rfl ?_
  exact E 0 _ _ _ _ (Nat.le_of_ble_eq_true rfl) dX7_clearBuffer_17 (⟨rfl, rfl⟩)
set_option maxRecDepth 100000 in
set_option maxHeartbeats 4000000 in
theorem c_X7_firstError (l : Launch) (D : va_G) (cs : Nat → ClassId) (ad : Nat → Nat) (M : Mm) (z : Nat → Int32) (n d : Nat) (hg : gv M 0 (gH 0) z n d) (hn8 : n ≤ 8) (hn1 : 1 ≤ n) (ct : Nat → Nat) (len : Nat) (hct : ∀ k, k < len → M.1 124 k = nI (ct k) ∧ ct k ≤ 126) (hlen : M.1 123 1 = nI len) (hl60 : len ≤ 60) : ∀ sz : Nat, Met l yX7_firstError (.code yX7_firstError cX7_firstError 1 (some .int) :: TT) { frames := 2, cells := 0, slots := 0, locals := 45 } (va_Pc [.ref (ad 117)] (fun U9 => U9.heap.size = sz ∧ wB D cs ad (fA ad sz) M U9 ∧ xX (fA ad sz) U9 U9.heap)) (va_Qi (fun r M2 => r = nI (fi (fun k => !goN ct n k) len) ∧ M2 = M) (wB D cs ad (fA ad sz)) (fA ad sz)) 0 0 (fA ad sz) := by
  refine sn_I (by decide) (Nat.le_of_ble_eq_true rfl) (fun κ C hN E => ?_)
  refine r_lv (lv2 := [(0, .ref (ad 117))]) [0] rfl ?_
  refine r_aload_n C dX7_firstError_0 rfl 0 rfl ?_
  refine r_get C (Cn := RX7) (T := TX7) (N := 10) (id := 117) (by decide) inw_X7 rfl rfl 4 (by decide) rfl fl_X7_34 rfl dX7_firstError_1 ?_
  refine r_aload_n C dX7_firstError_4 rfl 0 rfl ?_
  refine r_get C (Cn := RX7) (T := TX7) (N := 10) (id := 117) (by decide) inw_X7 rfl rfl 0 (by decide) rfl fl_X7_12 rfl dX7_firstError_5 ?_
  refine r_get C (Cn := RX4) (T := TX4) (N := 6) (id := (gO 0)) (by simp only [gO, gN, gW, gL, gR, gH] <;> omega) inw_X4 (wF_O cs ad (by decide) _ _) rfl 0 (by decide) rfl fl_X7_77 rfl dX7_firstError_8 ?_
  refine r_topi (w := nI n) hg.1 ?_
  refine r_pcallV_i (nA := 1) C (Nat.le_of_ble_eq_true rfl) [.int (nI n)] (c_X3_firstFault l D cs ad M  ct len hct hlen hl60 n hn8 hn1) (tt_V ml_X7_198 im_X3_firstFault se_X3_firstFault in_X3 co_X3_firstFault) ⟨rfl, rfl⟩ ⟨rfl, by decide, by decide, by decide⟩ ⟨Nat.le_of_ble_eq_true rfl, Nat.le_of_ble_eq_true rfl⟩ (by decide) rfl rfl rfl rfl rfl (Nat.le_of_ble_eq_true rfl) dX7_firstError_11 ?_
  exact E 0 _ _ _ _ (Nat.le_of_ble_eq_true rfl) dX7_firstError_14 (⟨rfl, rfl⟩)
theorem sv_id {M M1 : Mm} {z : Nat → Int32} {n d lt s i : Nat} {pm : Int32} (hs : svP M M1 z n d lt s pm) (hlt : lt < 6) (hi : i < 39 ∨ 117 ≤ i ∧ i < 120 ∨ 123 ≤ i) : M1.1 i = M.1 i := hs.2.2.2.2.2.1 i (by have := nx6_lt hlt; omega) (by omega) (by omega)
set_option maxRecDepth 100000 in
set_option maxHeartbeats 4000000 in
theorem c_X7_read (l : Launch) (D : va_G) (cs : Nat → ClassId) (ad : Nat → Nat) (M : Mm) (z : Nat → Int32) (n d : Nat) (hg : gv M 0 (gH 0) z n d) (hn8 : n ≤ 8) (lt : Nat) (hlt : M.1 120 2 = nI lt) (hlt6 : lt < 6) (s9 : Nat) (hs : M.1 120 3 = nI s9) (hs6 : s9 ≤ 6) (hn1 : 1 ≤ n) (ct : Nat → Nat) (len : Nat) (hct : ∀ k, k < len → M.1 124 k = nI (ct k) ∧ ct k ≤ 126) (hlen : M.1 123 1 = nI len) (hl60 : len ≤ 60) (J : Nat) (hJ : 3 * J = len + 1) (hda : ∀ j, 3 * j + 1 < len → 48 ≤ ct (3 * j) ∧ ct (3 * j) < ct (3 * j + 1) ∧ ct (3 * j + 1) < 48 + n) (hwh : decide (len % 3 = 2 ∧ fi (fun k => !goN ct n k) len = len) = true) (hm2 : gm (rdR z (fun j => ct (3 * j) - 48) (fun j => ct (3 * j + 1) - 48) J) n) : ∀ sz : Nat, Met l yX7_read (.code yX7_read cX7_read 1 (some .int) :: TT) { frames := 4, cells := 0, slots := 0, locals := 124 } (va_Pc [.ref (ad 117)] (fun U9 => U9.heap.size = sz ∧ wB D cs ad (fA ad sz) M U9 ∧ xX (fA ad sz) U9 U9.heap)) (va_Qi (fun r M2 => r = edz (rdR z (fun j => ct (3 * j) - 48) (fun j => ct (3 * j + 1) - 48) J) n ∧ ∃ M1 M3, svP M M1 z n d lt s9 (M.1 117 9) ∧ oG 0 M1 M3 ∧ gv M3 0 (gH 0) (rdR z (fun j => ct (3 * j) - 48) (fun j => ct (3 * j + 1) - 48) J) n d ∧ M2 = mI M3 123 1 (nI 0)) (wB D cs ad (fA ad sz)) (fA ad sz)) 0 0 (fA ad sz) := by
  refine sn_I (by decide) (Nat.le_of_ble_eq_true rfl) (fun κ C hN E => ?_)
  refine r_lv (lv2 := [(0, .ref (ad 117))]) [0] rfl ?_
  refine r_aload_n C dX7_read_0 rfl 0 rfl ?_
  refine r_get C (Cn := RX7) (T := TX7) (N := 10) (id := 117) (by decide) inw_X7 rfl rfl 4 (by decide) rfl fl_X7_34 rfl dX7_read_1 ?_
  refine r_aload_n C dX7_read_4 rfl 0 rfl ?_
  refine r_get C (Cn := RX7) (T := TX7) (N := 10) (id := 117) (by decide) inw_X7 rfl rfl 0 (by decide) rfl fl_X7_12 rfl dX7_read_5 ?_
  refine r_get C (Cn := RX4) (T := TX4) (N := 6) (id := (gO 0)) (by simp only [gO, gN, gW, gL, gR, gH] <;> omega) inw_X4 (wF_O cs ad (by decide) _ _) rfl 0 (by decide) rfl fl_X7_77 rfl dX7_read_8 ?_
  refine r_topi (w := nI n) hg.1 ?_
  refine r_pcallV_i (nA := 1) C (Nat.le_of_ble_eq_true rfl) [.int (nI n)] (c_X3_isWhole l D cs ad M  ct len hct hlen hl60 n hn8 hn1) (tt_V ml_X7_202 im_X3_isWhole se_X3_isWhole in_X3 co_X3_isWhole) ⟨rfl, rfl⟩ ⟨rfl, by decide, by decide, by decide⟩ ⟨Nat.le_of_ble_eq_true rfl, Nat.le_of_ble_eq_true rfl⟩ (by decide) rfl rfl rfl rfl rfl (Nat.le_of_ble_eq_true rfl) dX7_read_11 ?_
  refine r_ifB_ne C 27 dX7_read_14 (by decide) (fun h14 => ?_) (fun h14 => ?_)
  ·
    refine r_aload_n C dX7_read_27 rfl 0 rfl ?_
    refine r_callV_v (nA := 0) C (Nat.le_of_ble_eq_true rfl) [] (c_X7_saveState l D cs ad M  z n d hg hn8 lt hlt hlt6 s9 hs hs6) (tt_V ml_X7_80 im_X7_saveState se_X7_saveState in_X7 co_X7_saveState) ⟨rfl, rfl⟩ ⟨rfl, by decide, by decide, by decide⟩ ⟨Nat.le_of_ble_eq_true rfl, Nat.le_of_ble_eq_true rfl⟩ (by decide) rfl rfl rfl rfl rfl (Nat.le_of_ble_eq_true rfl) dX7_read_28 (fun Mu1 qu1 => ?_)
    refine r_aload_n C dX7_read_31 rfl 0 rfl ?_
    refine r_get C (Cn := RX7) (T := TX7) (N := 10) (id := 117) (by decide) inw_X7 rfl rfl 4 (by decide) rfl fl_X7_34 rfl dX7_read_32 ?_
    refine r_aload_n C dX7_read_35 rfl 0 rfl ?_
    refine r_get C (Cn := RX7) (T := TX7) (N := 10) (id := 117) (by decide) inw_X7 rfl rfl 0 (by decide) rfl fl_X7_12 rfl dX7_read_36 ?_
    refine r_callV_v (nA := 1) C (Nat.le_of_ble_eq_true rfl) [.ref (ad (gO 0))] (c_X3_joinAll l D cs ad Mu1  ct len (fun k hk => by rw [sv_id qu1 hlt6 (by decide)]; exact hct k hk) (by rw [sv_id qu1 hlt6 (by decide)]; exact hlen) hl60 z n d (sv_gv qu1 hlt6 hg hn8 (by decide) (by decide)) hn8 J hJ hda) (tt_V ml_X7_208 im_X3_joinAll se_X3_joinAll in_X3 co_X3_joinAll) ⟨rfl, rfl⟩ ⟨rfl, by decide, by decide, by decide⟩ ⟨Nat.le_of_ble_eq_true rfl, Nat.le_of_ble_eq_true rfl⟩ (by decide) rfl rfl rfl rfl rfl (Nat.le_of_ble_eq_true rfl) dX7_read_39 (fun Mu2 qu2 => ?_)
    refine r_aload_n C dX7_read_42 rfl 0 rfl ?_
    refine r_get C (Cn := RX7) (T := TX7) (N := 10) (id := 117) (by decide) inw_X7 rfl rfl 4 (by decide) rfl fl_X7_34 rfl dX7_read_43 ?_
    refine r_iconst C (nI 0) dX7_read_46 (by decide) ?_
    refine r_put C (M2 := (mI Mu2 123 1 (nI 0))) (Cn := RX3) (T := TX3) (N := 2) (id := 123) (by decide) inw_X3 tyX3_ok nmX3 rfl rfl 1 (by decide) rfl fl_X7_189 rfl rfl (rfl) (Nat.le_of_ble_eq_true rfl) (fun j hj => ⟨mI_ne _ hj, rfl⟩) rfl dX7_read_47 ?_
    refine r_aload_n C dX7_read_50 rfl 0 rfl ?_
    refine r_get C (Cn := RX7) (T := TX7) (N := 10) (id := 117) (by decide) inw_X7 rfl rfl 0 (by decide) rfl fl_X7_12 rfl dX7_read_51 ?_
    refine r_pcallV_i (nA := 0) C (Nat.le_of_ble_eq_true rfl) [] (c_X4_edges l D cs ad (mI Mu2 123 1 (nI 0)) 0  (by decide) (gH 0) (rdR z (fun j => ct (3 * j) - 48) (fun j => ct (3 * j + 1) - 48) J) n d (gv_k qu2.2 hn8 (fun i hi => mI_ne _ (by simp only [gH] at hi; omega))) hn8 hm2) (tt_V ml_X7_97 im_X4_edges se_X4_edges in_X4 co_X4_edges) ⟨rfl, rfl⟩ ⟨rfl, by decide, by decide, by decide⟩ ⟨Nat.le_of_ble_eq_true rfl, Nat.le_of_ble_eq_true rfl⟩ (by simp only [gO, gN, gW, gL, gR, gH] <;> omega) (wF_O cs ad (by decide) _ _) rfl rfl rfl rfl (Nat.le_of_ble_eq_true rfl) dX7_read_54 ?_
    exact E 0 _ _ _ _ (Nat.le_of_ble_eq_true rfl) dX7_read_57 (⟨rfl, _, _, qu1, qu2.1, qu2.2, rfl⟩)
  · exact absurd (h14.symm.trans hwh) (by decide)
set_option maxRecDepth 100000 in
set_option maxHeartbeats 4000000 in
theorem c_X7_readX (l : Launch) (D : va_G) (cs : Nat → ClassId) (ad : Nat → Nat) (hfl : l.stackTraces = false) (M : Mm) (z : Nat → Int32) (n d : Nat) (hg : gv M 0 (gH 0) z n d) (hn8 : n ≤ 8) (hn1 : 1 ≤ n) (ct : Nat → Nat) (len : Nat) (hct : ∀ k, k < len → M.1 124 k = nI (ct k) ∧ ct k ≤ 126) (hlen : M.1 123 1 = nI len) (hl60 : len ≤ 60) (hwh : decide (len % 3 = 2 ∧ fi (fun k => !goN ct n k) len = len) = false) : ∀ sz : Nat, vx_Met l yX7_read (.code yX7_read cX7_read 1 (some .int) :: TT) { frames := 6, cells := 1, slots := 6, locals := 92 } (va_Pc [.ref (ad 117)] (fun U9 => U9.heap.size = sz ∧ wB D cs ad (fA ad sz) M U9 ∧ xX (fA ad sz) U9 U9.heap)) (va_Qi (fun _ (_ : Mm) => False) (wB D cs ad (fA ad sz)) (fA ad sz)) (vx_X (fun M2 => M2 = M) (fun E9 M2 t => E9 = xQA ∧ wB D cs ad (fA ad sz) M2 t) (fA ad sz)) 1 6 (fA ad sz) := by
  refine sx_I hfl (by decide) (Nat.le_of_ble_eq_true rfl) (fun κ C hN X => ?_)
  refine r_lv (lv2 := [(0, .ref (ad 117))]) [0] rfl ?_
  refine r_aload_n C dX7_read_0 rfl 0 rfl ?_
  refine r_get C (Cn := RX7) (T := TX7) (N := 10) (id := 117) (by decide) inw_X7 rfl rfl 4 (by decide) rfl fl_X7_34 rfl dX7_read_1 ?_
  refine r_aload_n C dX7_read_4 rfl 0 rfl ?_
  refine r_get C (Cn := RX7) (T := TX7) (N := 10) (id := 117) (by decide) inw_X7 rfl rfl 0 (by decide) rfl fl_X7_12 rfl dX7_read_5 ?_
  refine r_get C (Cn := RX4) (T := TX4) (N := 6) (id := (gO 0)) (by simp only [gO, gN, gW, gL, gR, gH] <;> omega) inw_X4 (wF_O cs ad (by decide) _ _) rfl 0 (by decide) rfl fl_X7_77 rfl dX7_read_8 ?_
  refine r_topi (w := nI n) hg.1 ?_
  refine r_pcallV_i (nA := 1) C (Nat.le_of_ble_eq_true rfl) [.int (nI n)] (c_X3_isWhole l D cs ad M  ct len hct hlen hl60 n hn8 hn1) (tt_V ml_X7_202 im_X3_isWhole se_X3_isWhole in_X3 co_X3_isWhole) ⟨rfl, rfl⟩ ⟨rfl, by decide, by decide, by decide⟩ ⟨Nat.le_of_ble_eq_true rfl, Nat.le_of_ble_eq_true rfl⟩ (by decide) rfl rfl rfl rfl rfl (Nat.le_of_ble_eq_true rfl) dX7_read_11 ?_
  refine r_ifB_ne C 27 dX7_read_14 (by decide) (fun h14 => ?_) (fun h14 => ?_)
  · exact absurd (h14.symm.trans hwh) (by decide)
  ·
    exact r_throw C hN X (by decide) (show (206, "the buffer is not a complete row of edges") ∈ xTx from List.mem_of_getElem? (i := 14) rfl) xl_A xi_A xw_A xg_A dX7_read_17 dX7_read_20 dX7_read_21 dX7_read_23 dX7_read_26 (Nat.le_of_ble_eq_true rfl) (Nat.le_of_ble_eq_true rfl) rfl
set_option maxRecDepth 100000 in
set_option maxHeartbeats 4000000 in
theorem c_X7_take (l : Launch) (D : va_G) (cs : Nat → ClassId) (ad : Nat → Nat) (M : Mm) (z : Nat → Int32) (n d : Nat) (hg : gv M 0 (gH 0) z n d) (hn8 : n ≤ 8) (q : Nat) (hq : q ≤ 1) : ∀ sz : Nat, Met l yX7_take (.code yX7_take cX7_take 2 (some .int) :: TT) { frames := 2, cells := 0, slots := 0, locals := 82 } (va_Pc [.ref (ad 117), .int (nI q)] (fun U9 => U9.heap.size = sz ∧ wB D cs ad (fA ad sz) M U9 ∧ xX (fA ad sz) U9 U9.heap)) (va_Qi (fun r M2 => r = nI n ∧ ∃ M1, oG (1 + q) M M1 ∧ gv M1 (1 + q) (gH (1 + q)) z n d ∧ M2 = mI M1 119 q (nI 1)) (wB D cs ad (fA ad sz)) (fA ad sz)) 0 0 (fA ad sz) := by
  refine sn_I (by decide) (Nat.le_of_ble_eq_true rfl) (fun κ C hN E => ?_)
  refine r_lv (lv2 := [(0, .ref (ad 117)), (1, .int (nI q))]) [0, 1] rfl ?_
  refine r_aload_n C dX7_take_0 rfl 0 rfl ?_
  refine r_iload_n C dX7_take_1 rfl 1 rfl ?_
  refine r_pcallV_v (nA := 1) C (Nat.le_of_ble_eq_true rfl) [.int (nI q)] (c_X7_checkSnapshot l D cs ad M  q hq) (tt_V ml_X7_211 im_X7_checkSnapshot se_X7_checkSnapshot in_X7 co_X7_checkSnapshot) ⟨rfl, rfl⟩ ⟨rfl, by decide, by decide, by decide⟩ ⟨Nat.le_of_ble_eq_true rfl, Nat.le_of_ble_eq_true rfl⟩ (by decide) rfl rfl rfl rfl rfl (Nat.le_of_ble_eq_true rfl) dX7_take_2 ?_
  refine r_aload_n C dX7_take_5 rfl 0 rfl ?_
  refine r_get C (Cn := RX7) (T := TX7) (N := 10) (id := 117) (by decide) inw_X7 rfl rfl 1 (by decide) rfl fl_X7_16 rfl dX7_take_6 ?_
  refine r_iload_n C dX7_take_9 rfl 1 rfl ?_
  refine r_aald C (id := 118) (n := 2) (a := q) (id2 := (gO (1 + q))) (t0 := 5) (by decide) rfl rfl rfl (by omega) (by decide) (if_pos (by omega)) dX7_take_10 ?_
  refine r_aload_n C dX7_take_11 rfl 0 rfl ?_
  refine r_get C (Cn := RX7) (T := TX7) (N := 10) (id := 117) (by decide) inw_X7 rfl rfl 0 (by decide) rfl fl_X7_12 rfl dX7_take_12 ?_
  refine r_callV_v (nA := 1) C (Nat.le_of_ble_eq_true rfl) [.ref (ad (gO 0))] (c_X4_copyFrom l D cs ad M (1 + q)  0 (by omega) (by decide) (by omega) z n d hg hn8) (tt_V ml_X7_214 im_X4_copyFrom se_X4_copyFrom in_X4 co_X4_copyFrom) ⟨rfl, rfl⟩ ⟨rfl, by decide, by decide, by decide⟩ ⟨Nat.le_of_ble_eq_true rfl, Nat.le_of_ble_eq_true rfl⟩ (by simp only [gO, gN, gW, gL, gR, gH] <;> omega) (wF_O cs ad (by omega) _ _) rfl rfl rfl rfl (Nat.le_of_ble_eq_true rfl) dX7_take_15 (fun Mu1 qu1 => ?_)
  refine r_aload_n C dX7_take_18 rfl 0 rfl ?_
  refine r_get C (Cn := RX7) (T := TX7) (N := 10) (id := 117) (by decide) inw_X7 rfl rfl 2 (by decide) rfl fl_X7_20 rfl dX7_take_19 ?_
  refine r_iload_n C dX7_take_22 rfl 1 rfl ?_
  refine r_iconst C (nI 1) dX7_take_23 (by decide) ?_
  refine r_zast C (id := 119) (n := 2) (a := q) (by decide) (fun _ => rfl) (by omega) (by decide) nar_1 dX7_take_24 ?_
  refine r_aload_n C dX7_take_25 rfl 0 rfl ?_
  refine r_get C (Cn := RX7) (T := TX7) (N := 10) (id := 117) (by decide) inw_X7 rfl rfl 0 (by decide) rfl fl_X7_12 rfl dX7_take_26 ?_
  refine r_get C (Cn := RX4) (T := TX4) (N := 6) (id := (gO 0)) (by simp only [gO, gN, gW, gL, gR, gH] <;> omega) inw_X4 (wF_O cs ad (by decide) _ _) rfl 0 (by decide) rfl fl_X7_77 rfl dX7_take_29 ?_
  refine r_topi (w := (Mu1.1 (gO 0) 0)) (by rw [mI_ne _ (show gO 0 ≠ 119 from (by simp only [gO, gN, gW, gL, gR, gH] <;> omega))]) ?_
  refine r_topi (w := nI n) ((congrFun (qu1.1.1 (gO 0) (by simp only [gO]; omega)) 0).trans hg.1) ?_
  exact E 0 _ _ _ _ (Nat.le_of_ble_eq_true rfl) dX7_take_32 (⟨rfl, _, qu1.1, qu1.2, rfl⟩)
set_option maxRecDepth 100000 in
set_option maxHeartbeats 4000000 in
theorem c_X7_takeX (l : Launch) (D : va_G) (cs : Nat → ClassId) (ad : Nat → Nat) (hfl : l.stackTraces = false) (M : Mm) (x : Int32) (hbad : wit x (nI 0) (nI 1) = false) : ∀ sz : Nat, vx_Met l yX7_take (.code yX7_take cX7_take 2 (some .int) :: TT) { frames := 7, cells := 1, slots := 6, locals := 113 } (va_Pc [.ref (ad 117), .int x] (fun U9 => U9.heap.size = sz ∧ wB D cs ad (fA ad sz) M U9 ∧ xX (fA ad sz) U9 U9.heap)) (va_Qi (fun _ (_ : Mm) => False) (wB D cs ad (fA ad sz)) (fA ad sz)) (vx_X (fun M2 => M2 = M) (fun E9 M2 t => E9 = xQI ∧ wB D cs ad (fA ad sz) M2 t) (fA ad sz)) 1 6 (fA ad sz) := by
  refine sx_I hfl (by decide) (Nat.le_of_ble_eq_true rfl) (fun κ C hN X => ?_)
  refine r_lv (lv2 := [(0, .ref (ad 117)), (1, .int x)]) [0, 1] rfl ?_
  refine r_aload_n C dX7_take_0 rfl 0 rfl ?_
  refine r_iload_n C dX7_take_1 rfl 1 rfl ?_
  exact r_xcallV_v (nA := 1) C hN X [.int x] (c_X7_checkSnapshotX l D cs ad hfl M  x hbad) (tt_V ml_X7_211 im_X7_checkSnapshot se_X7_checkSnapshot in_X7 co_X7_checkSnapshot) ⟨rfl, rfl⟩ ⟨rfl, by decide, by decide, by decide⟩ ⟨Nat.le_of_ble_eq_true rfl, Nat.le_of_ble_eq_true rfl⟩ (by decide) rfl rfl rfl rfl rfl (Nat.le_of_ble_eq_true rfl) dX7_take_2 (fun _ h => h)
set_option maxRecDepth 100000 in
set_option maxHeartbeats 4000000 in
theorem c_X7_restore (l : Launch) (D : va_G) (cs : Nat → ClassId) (ad : Nat → Nat) (M : Mm) (z : Nat → Int32) (n d : Nat) (hg : gv M 0 (gH 0) z n d) (hn8 : n ≤ 8) (lt : Nat) (hlt : M.1 120 2 = nI lt) (hlt6 : lt < 6) (s9 : Nat) (hs : M.1 120 3 = nI s9) (hs6 : s9 ≤ 6) (q : Nat) (hq : q ≤ 1) (ht : M.1 119 q = nI 1) (y : Nat → Int32) (n2 d2 : Nat) (hy : gv M (1 + q) (gH (1 + q)) y n2 d2) (hn28 : n2 ≤ 8) : ∀ sz : Nat, Met l yX7_restore (.code yX7_restore cX7_restore 2 (some .int) :: TT) { frames := 4, cells := 0, slots := 0, locals := 124 } (va_Pc [.ref (ad 117), .int (nI q)] (fun U9 => U9.heap.size = sz ∧ wB D cs ad (fA ad sz) M U9 ∧ xX (fA ad sz) U9 U9.heap)) (va_Qi (fun r M2 => r = nI n2 ∧ chP M M2 z n d lt s9 y n2 d2) (wB D cs ad (fA ad sz)) (fA ad sz)) 0 0 (fA ad sz) := by
  refine sn_I (by decide) (Nat.le_of_ble_eq_true rfl) (fun κ C hN E => ?_)
  refine r_lv (lv2 := [(0, .ref (ad 117)), (1, .int (nI q))]) [0, 1] rfl ?_
  refine r_aload_n C dX7_restore_0 rfl 0 rfl ?_
  refine r_iload_n C dX7_restore_1 rfl 1 rfl ?_
  refine r_pcallV_v (nA := 1) C (Nat.le_of_ble_eq_true rfl) [.int (nI q)] (c_X7_checkTaken l D cs ad M  q hq ht) (tt_V ml_X7_118 im_X7_checkTaken se_X7_checkTaken in_X7 co_X7_checkTaken) ⟨rfl, rfl⟩ ⟨rfl, by decide, by decide, by decide⟩ ⟨Nat.le_of_ble_eq_true rfl, Nat.le_of_ble_eq_true rfl⟩ (by decide) rfl rfl rfl rfl rfl (Nat.le_of_ble_eq_true rfl) dX7_restore_2 ?_
  refine r_aload_n C dX7_restore_5 rfl 0 rfl ?_
  refine r_callV_v (nA := 0) C (Nat.le_of_ble_eq_true rfl) [] (c_X7_saveState l D cs ad M  z n d hg hn8 lt hlt hlt6 s9 hs hs6) (tt_V ml_X7_80 im_X7_saveState se_X7_saveState in_X7 co_X7_saveState) ⟨rfl, rfl⟩ ⟨rfl, by decide, by decide, by decide⟩ ⟨Nat.le_of_ble_eq_true rfl, Nat.le_of_ble_eq_true rfl⟩ (by decide) rfl rfl rfl rfl rfl (Nat.le_of_ble_eq_true rfl) dX7_restore_6 (fun Mu1 qu1 => ?_)
  refine r_aload_n C dX7_restore_9 rfl 0 rfl ?_
  refine r_get C (Cn := RX7) (T := TX7) (N := 10) (id := 117) (by decide) inw_X7 rfl rfl 0 (by decide) rfl fl_X7_12 rfl dX7_restore_10 ?_
  refine r_aload_n C dX7_restore_13 rfl 0 rfl ?_
  refine r_get C (Cn := RX7) (T := TX7) (N := 10) (id := 117) (by decide) inw_X7 rfl rfl 1 (by decide) rfl fl_X7_16 rfl dX7_restore_14 ?_
  refine r_iload_n C dX7_restore_17 rfl 1 rfl ?_
  refine r_aald C (id := 118) (n := 2) (a := q) (id2 := (gO (1 + q))) (t0 := 5) (by decide) rfl rfl rfl (by omega) (by decide) (if_pos (by omega)) dX7_restore_18 ?_
  refine r_callV_v (nA := 1) C (Nat.le_of_ble_eq_true rfl) [.ref (ad (gO (1 + q)))] (c_X4_copyFrom l D cs ad Mu1 0  (1 + q) (by decide) (by omega) (by omega) y n2 d2 (sv_gv qu1 hlt6 hy hn28 (by omega) (by simp only [gH]; omega)) hn28) (tt_V ml_X7_214 im_X4_copyFrom se_X4_copyFrom in_X4 co_X4_copyFrom) ⟨rfl, rfl⟩ ⟨rfl, by decide, by decide, by decide⟩ ⟨Nat.le_of_ble_eq_true rfl, Nat.le_of_ble_eq_true rfl⟩ (by simp only [gO, gN, gW, gL, gR, gH] <;> omega) (wF_O cs ad (by decide) _ _) rfl rfl rfl rfl (Nat.le_of_ble_eq_true rfl) dX7_restore_19 (fun Mu2 qu2 => ?_)
  refine r_aload_n C dX7_restore_22 rfl 0 rfl ?_
  refine r_get C (Cn := RX7) (T := TX7) (N := 10) (id := 117) (by decide) inw_X7 rfl rfl 0 (by decide) rfl fl_X7_12 rfl dX7_restore_23 ?_
  refine r_get C (Cn := RX4) (T := TX4) (N := 6) (id := (gO 0)) (by simp only [gO, gN, gW, gL, gR, gH] <;> omega) inw_X4 (wF_O cs ad (by decide) _ _) rfl 0 (by decide) rfl fl_X7_77 rfl dX7_restore_26 ?_
  refine r_topi (w := nI n2) qu2.2.1 ?_
  exact E 0 _ _ _ _ (Nat.le_of_ble_eq_true rfl) dX7_restore_29 (⟨rfl, _, qu1, qu2.1, qu2.2⟩)
set_option maxRecDepth 100000 in
set_option maxHeartbeats 4000000 in
theorem c_X7_restoreX (l : Launch) (D : va_G) (cs : Nat → ClassId) (ad : Nat → Nat) (hfl : l.stackTraces = false) (M : Mm) (x : Int32) (hbad : wit x (nI 0) (nI 1) = false) : ∀ sz : Nat, vx_Met l yX7_restore (.code yX7_restore cX7_restore 2 (some .int) :: TT) { frames := 8, cells := 1, slots := 6, locals := 134 } (va_Pc [.ref (ad 117), .int x] (fun U9 => U9.heap.size = sz ∧ wB D cs ad (fA ad sz) M U9 ∧ xX (fA ad sz) U9 U9.heap)) (va_Qi (fun _ (_ : Mm) => False) (wB D cs ad (fA ad sz)) (fA ad sz)) (vx_X (fun M2 => M2 = M) (fun E9 M2 t => E9 = xQI ∧ wB D cs ad (fA ad sz) M2 t) (fA ad sz)) 1 6 (fA ad sz) := by
  refine sx_I hfl (by decide) (Nat.le_of_ble_eq_true rfl) (fun κ C hN X => ?_)
  refine r_lv (lv2 := [(0, .ref (ad 117)), (1, .int x)]) [0, 1] rfl ?_
  refine r_aload_n C dX7_restore_0 rfl 0 rfl ?_
  refine r_iload_n C dX7_restore_1 rfl 1 rfl ?_
  exact r_xcallV_v (nA := 1) C hN X [.int x] (c_X7_checkTakenX l D cs ad hfl M  x hbad) (tt_V ml_X7_118 im_X7_checkTaken se_X7_checkTaken in_X7 co_X7_checkTaken) ⟨rfl, rfl⟩ ⟨rfl, by decide, by decide, by decide⟩ ⟨Nat.le_of_ble_eq_true rfl, Nat.le_of_ble_eq_true rfl⟩ (by decide) rfl rfl rfl rfl rfl (Nat.le_of_ble_eq_true rfl) dX7_restore_2 (fun _ h => h)
set_option maxRecDepth 100000 in
set_option maxHeartbeats 4000000 in
theorem c_X7_restoreF (l : Launch) (D : va_G) (cs : Nat → ClassId) (ad : Nat → Nat) (hfl : l.stackTraces = false) (M : Mm) (q : Nat) (hq : q ≤ 1) (ht : M.1 119 q = nI 0) : ∀ sz : Nat, vx_Met l yX7_restore (.code yX7_restore cX7_restore 2 (some .int) :: TT) { frames := 7, cells := 1, slots := 6, locals := 113 } (va_Pc [.ref (ad 117), .int (nI q)] (fun U9 => U9.heap.size = sz ∧ wB D cs ad (fA ad sz) M U9 ∧ xX (fA ad sz) U9 U9.heap)) (va_Qi (fun _ (_ : Mm) => False) (wB D cs ad (fA ad sz)) (fA ad sz)) (vx_X (fun M2 => M2 = M) (fun E9 M2 t => E9 = xQS ∧ wB D cs ad (fA ad sz) M2 t) (fA ad sz)) 1 6 (fA ad sz) := by
  refine sx_I hfl (by decide) (Nat.le_of_ble_eq_true rfl) (fun κ C hN X => ?_)
  refine r_lv (lv2 := [(0, .ref (ad 117)), (1, .int (nI q))]) [0, 1] rfl ?_
  refine r_aload_n C dX7_restore_0 rfl 0 rfl ?_
  refine r_iload_n C dX7_restore_1 rfl 1 rfl ?_
  exact r_xcallV_v (nA := 1) C hN X [.int (nI q)] (c_X7_checkTakenF l D cs ad hfl M  q hq ht) (tt_V ml_X7_118 im_X7_checkTaken se_X7_checkTaken in_X7 co_X7_checkTaken) ⟨rfl, rfl⟩ ⟨rfl, by decide, by decide, by decide⟩ ⟨Nat.le_of_ble_eq_true rfl, Nat.le_of_ble_eq_true rfl⟩ (by decide) rfl rfl rfl rfl rfl (Nat.le_of_ble_eq_true rfl) dX7_restore_2 (fun _ h => h)
