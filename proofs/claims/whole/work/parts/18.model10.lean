/-! ===== the reference's looks that search (written by wip/whole/gen/model10.py) ===== -/
theorem SC.col (M : Mm) (c : Nat → Int32) : SC M (mA M 141 c) := ⟨fun i _ e2 _ _ _ => mA_ne _ e2, fun k _ => by rw [mA_ne _ (by decide)], fun i _ => rfl, rfl⟩
theorem SC.lay (M : Mm) (wt U S : Nat → Nat) (H n : Nat) : SC M (layM M wt U S H n) := by
  refine ⟨fun i e1 _ _ _ _ => setB_1 e1, fun k hk => ?_, fun i hi => ?_, rfl⟩
  · show upd (M.1 135) 10 _ k = _
    exact upd_n _ _ hk
  · unfold layM setB; rw [mI_2, mJ_ne _ hi, mJ_ne _ hi]
theorem rsz_c (z : Nat → Int32) (n : Nat) : rsz z n = nI 0 ∨ rsz z n = nI 1 ∨ rsz z n = nI 2 := by
  unfold rsz; split
  · split
    · exact Or.inl rfl
    · exact Or.inr (Or.inr rfl)
  · exact Or.inr (Or.inl rfl)
theorem rsz_0 {z : Nat → Int32} {n : Nat} : rsz z n ≤ 0 ↔ rsz z n = nI 0 := by
  rcases rsz_c z n with h | h | h <;> rw [h] <;> decide
def vnz (z : Nat → Int32) (n v w : Nat) : Int32 := if w = 0 then z (2 + v) else if w = 1 then on8 (z (10 + v)) else if w = 2 then dotz z (18 + 4 * v) (18 + 4 * v) else if w = 3 then dotz z 50 (18 + 4 * v) else if w = 4 then crs z n v else if w = 5 then wz z n (hvz z n (s1 v)) else z (18 + 4 * v + w - 10)
def bdz (z : Nat → Int32) (n : Nat) (wt U S : Nat → Nat) (H p : Nat) : Int64 := if rsz z n = nI 0 then (if p = 0 then lN (bnA wt U S H n) else if p = 1 then lN (bnB wt U S H n) else (bnT wt U S H n).toInt64) else -1
def rnz (z : Nat → Int32) (n w : Nat) : Int32 := if w = 0 then rsz z n else if mfR z n = -1 then (if w = 1 then upR z n else -1) else if w = 1 then mfR z n / nI 8 else mfR z n - mfR z n / nI 8 * nI 8
def bhz (z : Nat → Int32) (n d b size : Nat) (wt U : Nat → Nat) (S : Nat → Nat → Nat) (H : Nat → Nat) (w : Nat) : Int64 := if w < 2 then (if 0 < (lbF z n d b size wt U S H).2.1 then (if w = 0 then lN (lbF z n d b size wt U S H).1 else lN (lbF z n d b size wt U S H).2.1) else -1) else (bsD z d b size (lbF z n d b size wt U S H).2.2 (w - 10)).toInt64
def ctz (z tk : Nat → Int32) (st : Int32) (n d k : Nat) : Int32 := if k = 0 then nI n else if k = 1 then nI d else if k = 2 then edz z n else if k = 3 then wz z n (hvz z n (nI 0)) else if k = 4 then hvz z n (nI 0) else if k = 5 then mvS z n (2 ^ n) else if k = 6 then nI (cnK z n) else if k = 7 then sI (fun k => bI (mfp z k)) (8 * n) else if k = 8 then dotz z 50 50 else if k = 9 then z 54 else if k = 10 then tk 0 + tk 1 else st
def nrz (z : Nat → Int32) (n : Nat) (wt U S : Nat → Nat) (H : Nat) : UInt64 := if rsz z n = nI 0 then (if bnA wt U S H n = 0 then 0 else FP.ddiv (FP.dmul (FP.i2d (wz z n (hvz z n (nI 0)))) (FP.l2d (lN (bnB wt U S H n)))) (FP.l2d (lN (bnA wt U S H n)))) else 0
set_option maxRecDepth 100000 in
set_option maxHeartbeats 4000000 in
theorem c_X8_colorOf (l : Launch) (D : va_G) (cs : Nat → ClassId) (ad : Nat → Nat) (M : Mm) (v : Nat) (n : Nat) (hn : M.1 136 0 = nI n) (hn8 : n ≤ 8) (hn1 : 1 ≤ n) (hex : fi (fun k => (cfC (M.1 136) n k).isSome) n < n) (hv : v < n) : ∀ sz : Nat, Met l yX8_colorOf (.code yX8_colorOf cX8_colorOf 3 (some .int) :: TT) { frames := 5, cells := 0, slots := 0, locals := 109 } (va_Pc [.ref (ad 135), .int (nI v)] (fun U9 => U9.heap.size = sz ∧ wB D cs ad (fA ad sz) M U9)) (va_Qi (fun r M2 => r = crs (M.1 136) n v ∧ SC M M2) (wB D cs ad (fA ad sz)) (fA ad sz)) 0 0 (fA ad sz) := by
  have hcl : cnK (M.1 136) n ≤ 9 := by unfold cnK; omega
  have hc1 : 1 ≤ cnK (M.1 136) n := by unfold cnK; omega
  refine st_I (by decide) (Nat.le_of_ble_eq_true rfl) (fun κ C E => ?_)
  refine r_lv (lv2 := [(0, .ref (ad 135)), (1, .int (nI v))]) [0, 1] rfl ?_
  refine r_aload_n C dX8_colorOf_0 rfl 0 rfl ?_
  refine r_callV_i (nA := 0) C (Nat.le_of_ble_eq_true rfl) [] (c_X8_colorAll l D cs ad M  n hn hn8 hn1 hex) (tt_V ml_X8_147 im_X8_colorAll se_X8_colorAll in_X8 co_X8_colorAll) ⟨rfl, rfl⟩ ⟨rfl, by decide, by decide, by decide⟩ ⟨Nat.le_of_ble_eq_true rfl, Nat.le_of_ble_eq_true rfl⟩ (by decide) rfl rfl rfl rfl rfl (Nat.le_of_ble_eq_true rfl) dX8_colorOf_1 (fun ru1 Mu1 qu1 => ?_)
  obtain ⟨c2, rfl, rfl, hc2⟩ := qu1
  refine r_istore_n C [(2, .int (nI (cnK (M.1 136) n))), (0, .ref (ad 135)), (1, .int (nI v))] dX8_colorOf_4 rfl (by decide) rfl ?_
  refine r_iload_n C dX8_colorOf_5 rfl 0 rfl ?_
  refine r_ifN_le C 18 dX8_colorOf_6 (by decide) (by omega) (fun h6 => ?_) (fun h6 => ?_)
  · exact absurd h6 (by omega)
  ·
    refine r_aload_n C dX8_colorOf_9 rfl 1 rfl ?_
    refine r_get C (Cn := RX8) (T := TX8) (N := 18) (id := 135) (by decide) inw_X8 rfl rfl 11 (by decide) rfl fl_X8_25 rfl dX8_colorOf_10 ?_
    refine r_iload_n C dX8_colorOf_13 rfl 2 rfl ?_
    refine r_iald C (id := 141) (n := 8) (a := v) (by decide) rfl (by omega) (by decide) dX8_colorOf_14 ?_
    refine r_goto C 19 dX8_colorOf_15 (by decide) ?_
    exact E 0 _ _ _ _ (Nat.le_of_ble_eq_true rfl) dX8_colorOf_19 (⟨hc2 v hv, SC.col M c2⟩)
set_option maxRecDepth 100000 in
set_option maxHeartbeats 4000000 in
theorem c_X8_vertexNow (l : Launch) (D : va_G) (cs : Nat → ClassId) (ad : Nat → Nat) (M : Mm) (v w : Nat) (n : Nat) (hn : M.1 136 0 = nI n) (hn8 : n ≤ 8) (hn1 : 1 ≤ n) (hex : fi (fun k => (cfC (M.1 136) n k).isSome) n < n) (hv : v < n) (hw : w ≤ 5 ∨ (10 ≤ w ∧ w ≤ 13)) : ∀ sz : Nat, Met l yX8_vertexNow (.code yX8_vertexNow cX8_vertexNow 3 (some .int) :: TT) { frames := 6, cells := 0, slots := 0, locals := 131 } (va_Pc [.ref (ad 135), .int (nI v), .int (nI w)] (fun U9 => U9.heap.size = sz ∧ wB D cs ad (fA ad sz) M U9)) (va_Qi (fun r M2 => r = vnz (M.1 136) n v w ∧ SC M M2) (wB D cs ad (fA ad sz)) (fA ad sz)) 0 0 (fA ad sz) := by
  refine st_I (by decide) (Nat.le_of_ble_eq_true rfl) (fun κ C E => ?_)
  refine r_lv (lv2 := [(0, .ref (ad 135)), (1, .int (nI v)), (2, .int (nI w))]) [0, 1, 2] rfl ?_
  refine r_iload_n C dX8_vertexNow_0 rfl 2 rfl ?_
  rcases (show w = 0 ∨ w = 1 ∨ w = 2 ∨ w = 3 ∨ w = 4 ∨ w = 5 ∨ 5 < w by omega) with rfl | rfl | rfl | rfl | rfl | rfl | hsw
  ·
    refine r_tableIn C 40 dX8_vertexNow_1 (by decide) (by decide) rfl (by decide) ?_
    refine r_aload_n C dX8_vertexNow_40 rfl 0 rfl ?_
    refine r_iload_n C dX8_vertexNow_41 rfl 1 rfl ?_
    refine r_pcallV_i (nA := 1) C (Nat.le_of_ble_eq_true rfl) [.int (nI v)] (c_X8_weight l D cs ad M v (by omega)) (tt_V ml_X8_70 im_X8_weight se_X8_weight in_X8 co_X8_weight) ⟨rfl, rfl⟩ ⟨rfl, by decide, by decide, by decide⟩ ⟨Nat.le_of_ble_eq_true rfl, Nat.le_of_ble_eq_true rfl⟩ (by decide) rfl rfl rfl rfl rfl (Nat.le_of_ble_eq_true rfl) dX8_vertexNow_42 ?_
    exact E 0 _ _ _ _ (Nat.le_of_ble_eq_true rfl) dX8_vertexNow_45 (⟨rfl, SC.rf M⟩)
  ·
    refine r_tableIn C 46 dX8_vertexNow_1 (by decide) (by decide) rfl (by decide) ?_
    refine r_aload_n C dX8_vertexNow_46 rfl 0 rfl ?_
    refine r_get C (Cn := RX8) (T := TX8) (N := 18) (id := 135) (by decide) inw_X8 rfl rfl 0 (by decide) rfl fl_X8_7 rfl dX8_vertexNow_47 ?_
    refine r_bipush C (nI 10) dX8_vertexNow_50 (by decide) ?_
    refine r_iload_n C dX8_vertexNow_52 rfl 1 rfl ?_
    refine r_iadd C dX8_vertexNow_53 ?_
    refine r_topi (nI_add 10 v) ?_
    refine r_iald C (id := 136) (n := 55) (a := 10 + v) (by decide) rfl (by omega) (by decide) dX8_vertexNow_54 ?_
    refine r_pcallS_i (nA := 1) C (Nat.le_of_ble_eq_true rfl) [.int (M.1 136 (10 + v))] (c_X8_ones l D cs ad M (M.1 136 (10 + v)) ) (tt_S ml_X8_64 st_X8_ones in_X8 co_X8_ones) ⟨rfl, rfl⟩ ⟨rfl, by decide, by decide, by decide⟩ ⟨Nat.le_of_ble_eq_true rfl, Nat.le_of_ble_eq_true rfl⟩ rfl rfl (Nat.le_of_ble_eq_true rfl) dX8_vertexNow_55 ?_
    exact E 0 _ _ _ _ (Nat.le_of_ble_eq_true rfl) dX8_vertexNow_58 (⟨rfl, SC.rf M⟩)
  ·
    refine r_tableIn C 59 dX8_vertexNow_1 (by decide) (by decide) rfl (by decide) ?_
    refine r_aload_n C dX8_vertexNow_59 rfl 0 rfl ?_
    refine r_iload_n C dX8_vertexNow_60 rfl 1 rfl ?_
    refine r_pcallS_i (nA := 1) C (Nat.le_of_ble_eq_true rfl) [.int (nI v)] (c_X8_labelAt l D cs ad M v ) (tt_S ml_X8_56 st_X8_labelAt in_X8 co_X8_labelAt) ⟨rfl, rfl⟩ ⟨rfl, by decide, by decide, by decide⟩ ⟨Nat.le_of_ble_eq_true rfl, Nat.le_of_ble_eq_true rfl⟩ rfl rfl (Nat.le_of_ble_eq_true rfl) dX8_vertexNow_61 ?_
    refine r_iload_n C dX8_vertexNow_64 rfl 1 rfl ?_
    refine r_pcallS_i (nA := 1) C (Nat.le_of_ble_eq_true rfl) [.int (nI v)] (c_X8_labelAt l D cs ad M v ) (tt_S ml_X8_56 st_X8_labelAt in_X8 co_X8_labelAt) ⟨rfl, rfl⟩ ⟨rfl, by decide, by decide, by decide⟩ ⟨Nat.le_of_ble_eq_true rfl, Nat.le_of_ble_eq_true rfl⟩ rfl rfl (Nat.le_of_ble_eq_true rfl) dX8_vertexNow_65 ?_
    refine r_pcallV_i (nA := 2) C (Nat.le_of_ble_eq_true rfl) [.int (nI (18 + 4 * v)), .int (nI (18 + 4 * v))] (c_X8_product l D cs ad M (18 + 4 * v) (18 + 4 * v) (by omega) (by omega)) (tt_V ml_X8_60 im_X8_product se_X8_product in_X8 co_X8_product) ⟨rfl, rfl⟩ ⟨rfl, by decide, by decide, by decide⟩ ⟨Nat.le_of_ble_eq_true rfl, Nat.le_of_ble_eq_true rfl⟩ (by decide) rfl rfl rfl rfl rfl (Nat.le_of_ble_eq_true rfl) dX8_vertexNow_68 ?_
    exact E 0 _ _ _ _ (Nat.le_of_ble_eq_true rfl) dX8_vertexNow_71 (⟨rfl, SC.rf M⟩)
  ·
    refine r_tableIn C 72 dX8_vertexNow_1 (by decide) (by decide) rfl (by decide) ?_
    refine r_aload_n C dX8_vertexNow_72 rfl 0 rfl ?_
    refine r_iload_n C dX8_vertexNow_73 rfl 1 rfl ?_
    refine r_pcallV_i (nA := 1) C (Nat.le_of_ble_eq_true rfl) [.int (nI v)] (c_X8_byHandle l D cs ad M v (by omega)) (tt_V ml_X8_73 im_X8_byHandle se_X8_byHandle in_X8 co_X8_byHandle) ⟨rfl, rfl⟩ ⟨rfl, by decide, by decide, by decide⟩ ⟨Nat.le_of_ble_eq_true rfl, Nat.le_of_ble_eq_true rfl⟩ (by decide) rfl rfl rfl rfl rfl (Nat.le_of_ble_eq_true rfl) dX8_vertexNow_74 ?_
    exact E 0 _ _ _ _ (Nat.le_of_ble_eq_true rfl) dX8_vertexNow_77 (⟨rfl, SC.rf M⟩)
  ·
    refine r_tableIn C 78 dX8_vertexNow_1 (by decide) (by decide) rfl (by decide) ?_
    refine r_aload_n C dX8_vertexNow_78 rfl 0 rfl ?_
    refine r_iload_n C dX8_vertexNow_79 rfl 1 rfl ?_
    refine r_callV_i (nA := 1) C (Nat.le_of_ble_eq_true rfl) [.int (nI v)] (c_X8_colorOf l D cs ad M v n hn hn8 hn1 hex (by omega)) (tt_V ml_X8_177 im_X8_colorOf se_X8_colorOf in_X8 co_X8_colorOf) ⟨rfl, rfl⟩ ⟨rfl, by decide, by decide, by decide⟩ ⟨Nat.le_of_ble_eq_true rfl, Nat.le_of_ble_eq_true rfl⟩ (by decide) rfl rfl rfl rfl rfl (Nat.le_of_ble_eq_true rfl) dX8_vertexNow_80 (fun ru1 Mu1 qu1 => ?_)
    obtain ⟨rfl, hSu1⟩ := qu1
    exact E 0 _ _ _ _ (Nat.le_of_ble_eq_true rfl) dX8_vertexNow_83 (⟨rfl, hSu1⟩)
  ·
    refine r_tableIn C 84 dX8_vertexNow_1 (by decide) (by decide) rfl (by decide) ?_
    refine r_aload_n C dX8_vertexNow_84 rfl 0 rfl ?_
    refine r_aload_n C dX8_vertexNow_85 rfl 0 rfl ?_
    refine r_iconst C (nI 1) dX8_vertexNow_86 (by decide) ?_
    refine r_iload_n C dX8_vertexNow_87 rfl 1 rfl ?_
    refine r_ishl C dX8_vertexNow_88 ?_
    refine r_topi (w := s1 v) rfl ?_
    refine r_pcallV_i (nA := 1) C (Nat.le_of_ble_eq_true rfl) [.int (s1 v)] (c_X8_heaviest l D cs ad M (s1 v) n hn hn8) (tt_V ml_X8_180 im_X8_heaviest se_X8_heaviest in_X8 co_X8_heaviest) ⟨rfl, rfl⟩ ⟨rfl, by decide, by decide, by decide⟩ ⟨Nat.le_of_ble_eq_true rfl, Nat.le_of_ble_eq_true rfl⟩ (by decide) rfl rfl rfl rfl rfl (Nat.le_of_ble_eq_true rfl) dX8_vertexNow_89 ?_
    refine r_pcallV_i (nA := 1) C (Nat.le_of_ble_eq_true rfl) [.int (hvz (M.1 136) n (s1 v))] (c_X8_weightOf l D cs ad M (hvz (M.1 136) n (s1 v)) n hn hn8) (tt_V ml_X8_101 im_X8_weightOf se_X8_weightOf in_X8 co_X8_weightOf) ⟨rfl, rfl⟩ ⟨rfl, by decide, by decide, by decide⟩ ⟨Nat.le_of_ble_eq_true rfl, Nat.le_of_ble_eq_true rfl⟩ (by decide) rfl rfl rfl rfl rfl (Nat.le_of_ble_eq_true rfl) dX8_vertexNow_92 ?_
    exact E 0 _ _ _ _ (Nat.le_of_ble_eq_true rfl) dX8_vertexNow_95 (⟨rfl, SC.rf M⟩)
  ·
    refine r_tableOut C 96 dX8_vertexNow_1 (Or.inr (by rw [nI_toInt (by omega)]; omega)) (by decide) ?_
    refine r_aload_n C dX8_vertexNow_96 rfl 0 rfl ?_
    refine r_get C (Cn := RX8) (T := TX8) (N := 18) (id := 135) (by decide) inw_X8 rfl rfl 0 (by decide) rfl fl_X8_7 rfl dX8_vertexNow_97 ?_
    refine r_iload_n C dX8_vertexNow_100 rfl 1 rfl ?_
    refine r_pcallS_i (nA := 1) C (Nat.le_of_ble_eq_true rfl) [.int (nI v)] (c_X8_labelAt l D cs ad M v ) (tt_S ml_X8_56 st_X8_labelAt in_X8 co_X8_labelAt) ⟨rfl, rfl⟩ ⟨rfl, by decide, by decide, by decide⟩ ⟨Nat.le_of_ble_eq_true rfl, Nat.le_of_ble_eq_true rfl⟩ rfl rfl (Nat.le_of_ble_eq_true rfl) dX8_vertexNow_101 ?_
    refine r_iload_n C dX8_vertexNow_104 rfl 2 rfl ?_
    refine r_iadd C dX8_vertexNow_105 ?_
    refine r_topi (nI_add (18 + 4 * v) w) ?_
    refine r_bipush C (nI 10) dX8_vertexNow_106 (by decide) ?_
    refine r_isub C dX8_vertexNow_108 ?_
    refine r_topi (pk_sub (a := (18 + 4 * v) + w) (b := 10) (by omega)) ?_
    refine r_iald C (id := 136) (n := 55) (a := ((18 + 4 * v) + w) - 10) (by decide) rfl (by omega) (by decide) dX8_vertexNow_109 ?_
    exact E 0 _ _ _ _ (Nat.le_of_ble_eq_true rfl) dX8_vertexNow_110 (⟨by unfold vnz; rw [if_neg (by omega), if_neg (by omega), if_neg (by omega), if_neg (by omega), if_neg (by omega), if_neg (by omega)], SC.rf M⟩)
set_option maxRecDepth 100000 in
set_option maxHeartbeats 4000000 in
theorem c_X8_vertex (l : Launch) (D : va_G) (cs : Nat → ClassId) (ad : Nat → Nat) (M : Mm) (v w : Nat) (n : Nat) (hn : M.1 136 0 = nI n) (hn8 : n ≤ 8) (hn1 : 1 ≤ n) (hex : fi (fun k => (cfC (M.1 136) n k).isSome) n < n) (hv : v < n) (hw : w ≤ 5 ∨ (10 ≤ w ∧ w ≤ 13)) : ∀ sz : Nat, Met l yX8_vertex (.code yX8_vertex cX8_vertex 3 (some .int) :: TT) { frames := 7, cells := 0, slots := 0, locals := 153 } (va_Pc [.ref (ad 135), .int (nI v), .int (nI w)] (fun U9 => U9.heap.size = sz ∧ wB D cs ad (fA ad sz) M U9)) (va_Qi (fun r M2 => r = vnz (M.1 136) n v w ∧ SC (mI M 135 7 (nI 0)) M2) (wB D cs ad (fA ad sz)) (fA ad sz)) 0 0 (fA ad sz) := by
  have w1 : wit (nI w) (nI 0) (nI 5) = decide (w ≤ 5) := by rw [Bool.eq_iff_iff, wit_iff (by omega) (by omega) (by omega), decide_eq_true_iff]; omega
  have w2 : wit (nI w) (nI 10) (nI 13) = decide (10 ≤ w ∧ w ≤ 13) := by rw [Bool.eq_iff_iff, wit_iff (by omega) (by omega) (by omega), decide_eq_true_iff]
  refine st_I (by decide) (Nat.le_of_ble_eq_true rfl) (fun κ C E => ?_)
  refine r_lv (lv2 := [(0, .ref (ad 135)), (1, .int (nI v)), (2, .int (nI w))]) [0, 1, 2] rfl ?_
  refine r_aload_n C dX8_vertex_0 rfl 0 rfl ?_
  refine r_aload_n C dX8_vertex_1 rfl 0 rfl ?_
  refine r_iload_n C dX8_vertex_2 rfl 1 rfl ?_
  refine r_pcallV_i (nA := 1) C (Nat.le_of_ble_eq_true rfl) [.int (nI v)] (c_X8_isVertex l D cs ad M (nI v) n hn hn8) (tt_V ml_X8_113 im_X8_isVertex se_X8_isVertex in_X8 co_X8_isVertex) ⟨rfl, rfl⟩ ⟨rfl, by decide, by decide, by decide⟩ ⟨Nat.le_of_ble_eq_true rfl, Nat.le_of_ble_eq_true rfl⟩ (by decide) rfl rfl rfl rfl rfl (Nat.le_of_ble_eq_true rfl) dX8_vertex_3 ?_
  refine r_ifB_ne C 13 dX8_vertex_6 (by decide) (fun h6 => ?_) (fun h6 => ?_)
  ·
    refine r_iload_n C dX8_vertex_13 rfl 2 rfl ?_
    refine r_iconst C (nI 0) dX8_vertex_14 (by decide) ?_
    refine r_iconst C (nI 5) dX8_vertex_15 (by decide) ?_
    refine r_pcallS_i (nA := 3) C (Nat.le_of_ble_eq_true rfl) [.int (nI w), .int (nI 0), .int (nI 5)] (c_X8_within l D cs ad M (nI w) (nI 0) (nI 5) ) (tt_S ml_X8_48 st_X8_within in_X8 co_X8_within) ⟨rfl, rfl⟩ ⟨rfl, by decide, by decide, by decide⟩ ⟨Nat.le_of_ble_eq_true rfl, Nat.le_of_ble_eq_true rfl⟩ rfl rfl (Nat.le_of_ble_eq_true rfl) dX8_vertex_16 ?_
    refine r_ifB_ne C 33 dX8_vertex_19 (by decide) (fun h19 => ?_) (fun h19 => ?_)
    ·
      refine r_iconst C (nI 0) dX8_vertex_33 (by decide) ?_
      refine r_goto C 38 dX8_vertex_34 (by decide) ?_
      refine r_put C (M2 := (mI M 135 7 (nI 0))) (Cn := RX8) (T := TX8) (N := 18) (id := 135) (by decide) inw_X8 tyX8_ok nmX8 rfl rfl 7 (by decide) rfl fl_X8_41 rfl rfl (rfl) (Nat.le_of_ble_eq_true rfl) (fun j hj => ⟨mI_ne _ hj, rfl⟩) rfl dX8_vertex_38 ?_
      refine r_aload_n C dX8_vertex_41 rfl 0 rfl ?_
      refine r_get C (Cn := RX8) (T := TX8) (N := 18) (id := 135) (by decide) inw_X8 rfl rfl 7 (by decide) rfl fl_X8_41 rfl dX8_vertex_42 ?_
      refine r_topi (w := nI 0) (rfl) ?_
      refine r_if_le C 52 dX8_vertex_45 (by decide) (fun h45 => ?_) (fun h45 => ?_)
      ·
        refine r_aload_n C dX8_vertex_52 rfl 0 rfl ?_
        refine r_iload_n C dX8_vertex_53 rfl 1 rfl ?_
        refine r_iload_n C dX8_vertex_54 rfl 2 rfl ?_
        refine r_callV_i (nA := 2) C (Nat.le_of_ble_eq_true rfl) [.int (nI v), .int (nI w)] (c_X8_vertexNow l D cs ad (mI M 135 7 (nI 0)) v w n hn hn8 hn1 hex (by omega) (by omega)) (tt_V ml_X8_183 im_X8_vertexNow se_X8_vertexNow in_X8 co_X8_vertexNow) ⟨rfl, rfl⟩ ⟨rfl, by decide, by decide, by decide⟩ ⟨Nat.le_of_ble_eq_true rfl, Nat.le_of_ble_eq_true rfl⟩ (by decide) rfl rfl rfl rfl rfl (Nat.le_of_ble_eq_true rfl) dX8_vertex_55 (fun ru1 Mu1 qu1 => ?_)
        obtain ⟨rfl, hSu1⟩ := qu1
        exact E 0 _ _ _ _ (Nat.le_of_ble_eq_true rfl) dX8_vertex_58 (⟨rfl, hSu1⟩)
      · exact absurd h45 (by decide)
    ·
      refine r_iload_n C dX8_vertex_22 rfl 2 rfl ?_
      refine r_bipush C (nI 10) dX8_vertex_23 (by decide) ?_
      refine r_bipush C (nI 13) dX8_vertex_25 (by decide) ?_
      refine r_pcallS_i (nA := 3) C (Nat.le_of_ble_eq_true rfl) [.int (nI w), .int (nI 10), .int (nI 13)] (c_X8_within l D cs ad M (nI w) (nI 10) (nI 13) ) (tt_S ml_X8_48 st_X8_within in_X8 co_X8_within) ⟨rfl, rfl⟩ ⟨rfl, by decide, by decide, by decide⟩ ⟨Nat.le_of_ble_eq_true rfl, Nat.le_of_ble_eq_true rfl⟩ rfl rfl (Nat.le_of_ble_eq_true rfl) dX8_vertex_27 ?_
      refine r_ifB_eq C 37 dX8_vertex_30 (by decide) (fun h30 => ?_) (fun h30 => ?_)
      ·
        rw [w1, decide_eq_false_iff_not] at h19; rw [w2, decide_eq_false_iff_not] at h30; omega
      ·
        refine r_iconst C (nI 0) dX8_vertex_33 (by decide) ?_
        refine r_goto C 38 dX8_vertex_34 (by decide) ?_
        refine r_put C (M2 := (mI M 135 7 (nI 0))) (Cn := RX8) (T := TX8) (N := 18) (id := 135) (by decide) inw_X8 tyX8_ok nmX8 rfl rfl 7 (by decide) rfl fl_X8_41 rfl rfl (rfl) (Nat.le_of_ble_eq_true rfl) (fun j hj => ⟨mI_ne _ hj, rfl⟩) rfl dX8_vertex_38 ?_
        refine r_aload_n C dX8_vertex_41 rfl 0 rfl ?_
        refine r_get C (Cn := RX8) (T := TX8) (N := 18) (id := 135) (by decide) inw_X8 rfl rfl 7 (by decide) rfl fl_X8_41 rfl dX8_vertex_42 ?_
        refine r_topi (w := nI 0) (rfl) ?_
        refine r_if_le C 52 dX8_vertex_45 (by decide) (fun h45 => ?_) (fun h45 => ?_)
        ·
          refine r_aload_n C dX8_vertex_52 rfl 0 rfl ?_
          refine r_iload_n C dX8_vertex_53 rfl 1 rfl ?_
          refine r_iload_n C dX8_vertex_54 rfl 2 rfl ?_
          refine r_callV_i (nA := 2) C (Nat.le_of_ble_eq_true rfl) [.int (nI v), .int (nI w)] (c_X8_vertexNow l D cs ad (mI M 135 7 (nI 0)) v w n hn hn8 hn1 hex (by omega) (by omega)) (tt_V ml_X8_183 im_X8_vertexNow se_X8_vertexNow in_X8 co_X8_vertexNow) ⟨rfl, rfl⟩ ⟨rfl, by decide, by decide, by decide⟩ ⟨Nat.le_of_ble_eq_true rfl, Nat.le_of_ble_eq_true rfl⟩ (by decide) rfl rfl rfl rfl rfl (Nat.le_of_ble_eq_true rfl) dX8_vertex_55 (fun ru2 Mu2 qu2 => ?_)
          obtain ⟨rfl, hSu2⟩ := qu2
          exact E 0 _ _ _ _ (Nat.le_of_ble_eq_true rfl) dX8_vertex_58 (⟨rfl, hSu2⟩)
        · exact absurd h45 (by decide)
  · exact absurd (h6.symm.trans (wit_n hv (by omega))) (by decide)
set_option maxRecDepth 100000 in
set_option maxHeartbeats 4000000 in
theorem c_X8_vertexX (l : Launch) (D : va_G) (cs : Nat → ClassId) (ad : Nat → Nat) (M : Mm) (n : Nat) (hn : M.1 136 0 = nI n) (hn8 : n ≤ 8) (x y : Int32) (hbad : wit x (nI 0) (nI n - nI 1) = false) : ∀ sz : Nat, Met l yX8_vertex (.code yX8_vertex cX8_vertex 3 (some .int) :: TT) { frames := 2, cells := 0, slots := 0, locals := 43 } (va_Pc [.ref (ad 135), .int x, .int y] (fun U9 => U9.heap.size = sz ∧ wB D cs ad (fA ad sz) M U9)) (va_Qi (fun r M2 => r = nI 0 ∧ M2 = mI M 135 7 (nI 1)) (wB D cs ad (fA ad sz)) (fA ad sz)) 0 0 (fA ad sz) := by
  refine st_I (by decide) (Nat.le_of_ble_eq_true rfl) (fun κ C E => ?_)
  refine r_lv (lv2 := [(0, .ref (ad 135)), (1, .int x), (2, .int y)]) [0, 1, 2] rfl ?_
  refine r_aload_n C dX8_vertex_0 rfl 0 rfl ?_
  refine r_aload_n C dX8_vertex_1 rfl 0 rfl ?_
  refine r_iload_n C dX8_vertex_2 rfl 1 rfl ?_
  refine r_pcallV_i (nA := 1) C (Nat.le_of_ble_eq_true rfl) [.int x] (c_X8_isVertex l D cs ad M x n hn hn8) (tt_V ml_X8_113 im_X8_isVertex se_X8_isVertex in_X8 co_X8_isVertex) ⟨rfl, rfl⟩ ⟨rfl, by decide, by decide, by decide⟩ ⟨Nat.le_of_ble_eq_true rfl, Nat.le_of_ble_eq_true rfl⟩ (by decide) rfl rfl rfl rfl rfl (Nat.le_of_ble_eq_true rfl) dX8_vertex_3 ?_
  refine r_ifB_ne C 13 dX8_vertex_6 (by decide) (fun h6 => ?_) (fun h6 => ?_)
  · exact absurd (h6.symm.trans hbad) (by decide)
  ·
    refine r_iconst C (nI 1) dX8_vertex_9 (by decide) ?_
    refine r_goto C 38 dX8_vertex_10 (by decide) ?_
    refine r_put C (M2 := (mI M 135 7 (nI 1))) (Cn := RX8) (T := TX8) (N := 18) (id := 135) (by decide) inw_X8 tyX8_ok nmX8 rfl rfl 7 (by decide) rfl fl_X8_41 rfl rfl (rfl) (Nat.le_of_ble_eq_true rfl) (fun j hj => ⟨mI_ne _ hj, rfl⟩) rfl dX8_vertex_38 ?_
    refine r_aload_n C dX8_vertex_41 rfl 0 rfl ?_
    refine r_get C (Cn := RX8) (T := TX8) (N := 18) (id := 135) (by decide) inw_X8 rfl rfl 7 (by decide) rfl fl_X8_41 rfl dX8_vertex_42 ?_
    refine r_topi (w := nI 1) (rfl) ?_
    refine r_if_le C 52 dX8_vertex_45 (by decide) (fun h45 => ?_) (fun h45 => ?_)
    · exact absurd h45 (by decide)
    ·
      refine r_iconst C (nI 0) dX8_vertex_48 (by decide) ?_
      refine r_goto C 58 dX8_vertex_49 (by decide) ?_
      exact E 0 _ _ _ _ (Nat.le_of_ble_eq_true rfl) dX8_vertex_58 (⟨rfl, rfl⟩)
set_option maxRecDepth 100000 in
set_option maxHeartbeats 4000000 in
theorem c_X8_vertexY (l : Launch) (D : va_G) (cs : Nat → ClassId) (ad : Nat → Nat) (M : Mm) (n : Nat) (hn : M.1 136 0 = nI n) (hn8 : n ≤ 8) (v : Nat) (y : Int32) (hv : v < n) (h1 : wit y (nI 0) (nI 5) = false) (h2 : wit y (nI 10) (nI 13) = false) : ∀ sz : Nat, Met l yX8_vertex (.code yX8_vertex cX8_vertex 3 (some .int) :: TT) { frames := 2, cells := 0, slots := 0, locals := 43 } (va_Pc [.ref (ad 135), .int (nI v), .int y] (fun U9 => U9.heap.size = sz ∧ wB D cs ad (fA ad sz) M U9)) (va_Qi (fun r M2 => r = nI 0 ∧ M2 = mI M 135 7 (nI 2)) (wB D cs ad (fA ad sz)) (fA ad sz)) 0 0 (fA ad sz) := by
  refine st_I (by decide) (Nat.le_of_ble_eq_true rfl) (fun κ C E => ?_)
  refine r_lv (lv2 := [(0, .ref (ad 135)), (1, .int (nI v)), (2, .int y)]) [0, 1, 2] rfl ?_
  refine r_aload_n C dX8_vertex_0 rfl 0 rfl ?_
  refine r_aload_n C dX8_vertex_1 rfl 0 rfl ?_
  refine r_iload_n C dX8_vertex_2 rfl 1 rfl ?_
  refine r_pcallV_i (nA := 1) C (Nat.le_of_ble_eq_true rfl) [.int (nI v)] (c_X8_isVertex l D cs ad M (nI v) n hn hn8) (tt_V ml_X8_113 im_X8_isVertex se_X8_isVertex in_X8 co_X8_isVertex) ⟨rfl, rfl⟩ ⟨rfl, by decide, by decide, by decide⟩ ⟨Nat.le_of_ble_eq_true rfl, Nat.le_of_ble_eq_true rfl⟩ (by decide) rfl rfl rfl rfl rfl (Nat.le_of_ble_eq_true rfl) dX8_vertex_3 ?_
  refine r_ifB_ne C 13 dX8_vertex_6 (by decide) (fun h6 => ?_) (fun h6 => ?_)
  ·
    refine r_iload_n C dX8_vertex_13 rfl 2 rfl ?_
    refine r_iconst C (nI 0) dX8_vertex_14 (by decide) ?_
    refine r_iconst C (nI 5) dX8_vertex_15 (by decide) ?_
    refine r_pcallS_i (nA := 3) C (Nat.le_of_ble_eq_true rfl) [.int y, .int (nI 0), .int (nI 5)] (c_X8_within l D cs ad M y (nI 0) (nI 5) ) (tt_S ml_X8_48 st_X8_within in_X8 co_X8_within) ⟨rfl, rfl⟩ ⟨rfl, by decide, by decide, by decide⟩ ⟨Nat.le_of_ble_eq_true rfl, Nat.le_of_ble_eq_true rfl⟩ rfl rfl (Nat.le_of_ble_eq_true rfl) dX8_vertex_16 ?_
    refine r_ifB_ne C 33 dX8_vertex_19 (by decide) (fun h19 => ?_) (fun h19 => ?_)
    · exact absurd (h19.symm.trans h1) (by decide)
    ·
      refine r_iload_n C dX8_vertex_22 rfl 2 rfl ?_
      refine r_bipush C (nI 10) dX8_vertex_23 (by decide) ?_
      refine r_bipush C (nI 13) dX8_vertex_25 (by decide) ?_
      refine r_pcallS_i (nA := 3) C (Nat.le_of_ble_eq_true rfl) [.int y, .int (nI 10), .int (nI 13)] (c_X8_within l D cs ad M y (nI 10) (nI 13) ) (tt_S ml_X8_48 st_X8_within in_X8 co_X8_within) ⟨rfl, rfl⟩ ⟨rfl, by decide, by decide, by decide⟩ ⟨Nat.le_of_ble_eq_true rfl, Nat.le_of_ble_eq_true rfl⟩ rfl rfl (Nat.le_of_ble_eq_true rfl) dX8_vertex_27 ?_
      refine r_ifB_eq C 37 dX8_vertex_30 (by decide) (fun h30 => ?_) (fun h30 => ?_)
      ·
        refine r_iconst C (nI 2) dX8_vertex_37 (by decide) ?_
        refine r_put C (M2 := (mI M 135 7 (nI 2))) (Cn := RX8) (T := TX8) (N := 18) (id := 135) (by decide) inw_X8 tyX8_ok nmX8 rfl rfl 7 (by decide) rfl fl_X8_41 rfl rfl (rfl) (Nat.le_of_ble_eq_true rfl) (fun j hj => ⟨mI_ne _ hj, rfl⟩) rfl dX8_vertex_38 ?_
        refine r_aload_n C dX8_vertex_41 rfl 0 rfl ?_
        refine r_get C (Cn := RX8) (T := TX8) (N := 18) (id := 135) (by decide) inw_X8 rfl rfl 7 (by decide) rfl fl_X8_41 rfl dX8_vertex_42 ?_
        refine r_topi (w := nI 2) (rfl) ?_
        refine r_if_le C 52 dX8_vertex_45 (by decide) (fun h45 => ?_) (fun h45 => ?_)
        · exact absurd h45 (by decide)
        ·
          refine r_iconst C (nI 0) dX8_vertex_48 (by decide) ?_
          refine r_goto C 58 dX8_vertex_49 (by decide) ?_
          exact E 0 _ _ _ _ (Nat.le_of_ble_eq_true rfl) dX8_vertex_58 (⟨rfl, rfl⟩)
      · exact absurd (h30.symm.trans h2) (by decide)
  · exact absurd (h6.symm.trans (wit_n hv (by omega))) (by decide)
set_option maxRecDepth 100000 in
set_option maxHeartbeats 4000000 in
theorem c_X8_boundNow (l : Launch) (D : va_G) (cs : Nat → ClassId) (ad : Nat → Nat) (M : Mm) (p : Nat) (hp : p ≤ 2) (n : Nat) (hn : M.1 136 0 = nI n) (hn8 : n ≤ 8) (wt U S : Nat → Nat) (H : Nat) (hBr : rsz (M.1 136) n = nI 0 → bnH (M.1 136) n wt U S H) : ∀ sz : Nat, Met l yX8_boundNow (.code yX8_boundNow cX8_boundNow 2 (some .long) :: TT) { frames := 4, cells := 0, slots := 0, locals := 86 } (va_Pc [.ref (ad 135), .int (nI p)] (fun U9 => U9.heap.size = sz ∧ wB D cs ad (fA ad sz) M U9)) (va_Ql (fun r M2 => r = bdz (M.1 136) n wt U S H p ∧ SC M M2) (wB D cs ad (fA ad sz)) (fA ad sz)) 0 0 (fA ad sz) := by
  refine st_L (by decide) (Nat.le_of_ble_eq_true rfl) (fun κ C E => ?_)
  refine r_lv (lv2 := [(0, .ref (ad 135)), (1, .int (nI p))]) [0, 1] rfl ?_
  refine r_aload_n C dX8_boundNow_0 rfl 0 rfl ?_
  refine r_pcallV_i (nA := 0) C (Nat.le_of_ble_eq_true rfl) [] (c_X8_reason l D cs ad M  n hn hn8) (tt_V ml_X8_186 im_X8_reason se_X8_reason in_X8 co_X8_reason) ⟨rfl, rfl⟩ ⟨rfl, by decide, by decide, by decide⟩ ⟨Nat.le_of_ble_eq_true rfl, Nat.le_of_ble_eq_true rfl⟩ (by decide) rfl rfl rfl rfl rfl (Nat.le_of_ble_eq_true rfl) dX8_boundNow_1 ?_
  refine r_if_le C 11 dX8_boundNow_4 (by decide) (fun h4 => ?_) (fun h4 => ?_)
  ·
    rw [rsz_0] at h4
    have hB := hBr h4
    refine r_aload_n C dX8_boundNow_11 rfl 0 rfl ?_
    refine r_pcallV_v (nA := 0) C (Nat.le_of_ble_eq_true rfl) [] (c_X8_layBound l D cs ad M  n hn hn8 wt U S H hB) (tt_V ml_X8_156 im_X8_layBound se_X8_layBound in_X8 co_X8_layBound) ⟨rfl, rfl⟩ ⟨rfl, by decide, by decide, by decide⟩ ⟨Nat.le_of_ble_eq_true rfl, Nat.le_of_ble_eq_true rfl⟩ (by decide) rfl rfl rfl rfl rfl (Nat.le_of_ble_eq_true rfl) dX8_boundNow_12 ?_
    refine r_iload_n C dX8_boundNow_15 rfl 1 rfl ?_
    refine r_ifN_ne C 26 dX8_boundNow_16 (by decide) (by omega) (fun h16 => ?_) (fun h16 => ?_)
    ·
      refine r_iload_n C dX8_boundNow_26 rfl 1 rfl ?_
      refine r_iconst C (nI 1) dX8_boundNow_27 (by decide) ?_
      refine r_icmpN_ne C 38 dX8_boundNow_28 (by decide) (by omega) (by omega) (fun h28 => ?_) (fun h28 => ?_)
      ·
        refine r_aload_n C dX8_boundNow_38 rfl 0 rfl ?_
        refine r_get C (Cn := RX8) (T := TX8) (N := 18) (id := 135) (by decide) inw_X8 rfl rfl 10 (by decide) rfl fl_X8_90 rfl dX8_boundNow_39 ?_
        refine r_topi (w := (bnT wt U S H n)) (rfl) ?_
        refine r_i2l C dX8_boundNow_42 ?_
        exact E 0 _ _ _ _ (Nat.le_of_ble_eq_true rfl) dX8_boundNow_43 (⟨by simp [bdz, h4, h16, h28], SC.lay _ _ _ _ _ _⟩)
      ·
        refine r_aload_n C dX8_boundNow_31 rfl 0 rfl ?_
        refine r_get C (Cn := RX8) (T := TX8) (N := 18) (id := 135) (by decide) inw_X8 rfl rfl 9 (by decide) rfl fl_X8_87 rfl dX8_boundNow_32 ?_
        refine r_topl (w := lN (bnB wt U S H n)) (rfl) ?_
        refine r_goto C 43 dX8_boundNow_35 (by decide) ?_
        exact E 0 _ _ _ _ (Nat.le_of_ble_eq_true rfl) dX8_boundNow_43 (⟨by simp [bdz, h4, h16, h28], SC.lay _ _ _ _ _ _⟩)
    ·
      refine r_aload_n C dX8_boundNow_19 rfl 0 rfl ?_
      refine r_get C (Cn := RX8) (T := TX8) (N := 18) (id := 135) (by decide) inw_X8 rfl rfl 8 (by decide) rfl fl_X8_83 rfl dX8_boundNow_20 ?_
      refine r_topl (w := lN (bnA wt U S H n)) (rfl) ?_
      refine r_goto C 43 dX8_boundNow_23 (by decide) ?_
      exact E 0 _ _ _ _ (Nat.le_of_ble_eq_true rfl) dX8_boundNow_43 (⟨by simp [bdz, h4, h16], SC.lay _ _ _ _ _ _⟩)
  ·
    rw [rsz_0] at h4
    refine r_ldc2 C (-1) k_X8_189 dX8_boundNow_7 ?_
    exact E 0 _ _ _ _ (Nat.le_of_ble_eq_true rfl) dX8_boundNow_10 (⟨by simp [bdz, h4], SC.rf _⟩)
set_option maxRecDepth 100000 in
set_option maxHeartbeats 4000000 in
theorem c_X8_bound (l : Launch) (D : va_G) (cs : Nat → ClassId) (ad : Nat → Nat) (M : Mm) (p : Nat) (hp : p ≤ 2) (n : Nat) (hn : M.1 136 0 = nI n) (hn8 : n ≤ 8) (wt U S : Nat → Nat) (H : Nat) (hBr : rsz (M.1 136) n = nI 0 → bnH (M.1 136) n wt U S H) : ∀ sz : Nat, Met l yX8_bound (.code yX8_bound cX8_bound 2 (some .long) :: TT) { frames := 5, cells := 0, slots := 0, locals := 107 } (va_Pc [.ref (ad 135), .int (nI p)] (fun U9 => U9.heap.size = sz ∧ wB D cs ad (fA ad sz) M U9)) (va_Ql (fun r M2 => r = bdz (M.1 136) n wt U S H p ∧ SC (mI M 135 7 (nI 0)) M2) (wB D cs ad (fA ad sz)) (fA ad sz)) 0 0 (fA ad sz) := by
  have w1 : wit (nI p) (nI 0) (nI 2) = true := (wit_iff (by omega) (by omega) (by omega)).mpr ⟨by omega, hp⟩
  refine st_L (by decide) (Nat.le_of_ble_eq_true rfl) (fun κ C E => ?_)
  refine r_lv (lv2 := [(0, .ref (ad 135)), (1, .int (nI p))]) [0, 1] rfl ?_
  refine r_aload_n C dX8_bound_0 rfl 0 rfl ?_
  refine r_iload_n C dX8_bound_1 rfl 1 rfl ?_
  refine r_iconst C (nI 0) dX8_bound_2 (by decide) ?_
  refine r_iconst C (nI 2) dX8_bound_3 (by decide) ?_
  refine r_pcallS_i (nA := 3) C (Nat.le_of_ble_eq_true rfl) [.int (nI p), .int (nI 0), .int (nI 2)] (c_X8_within l D cs ad M (nI p) (nI 0) (nI 2) ) (tt_S ml_X8_48 st_X8_within in_X8 co_X8_within) ⟨rfl, rfl⟩ ⟨rfl, by decide, by decide, by decide⟩ ⟨Nat.le_of_ble_eq_true rfl, Nat.le_of_ble_eq_true rfl⟩ rfl rfl (Nat.le_of_ble_eq_true rfl) dX8_bound_4 ?_
  refine r_ifB_eq C 14 dX8_bound_7 (by decide) (fun h7 => ?_) (fun h7 => ?_)
  · exact absurd (h7.symm.trans w1) (by decide)
  ·
    refine r_iconst C (nI 0) dX8_bound_10 (by decide) ?_
    refine r_goto C 15 dX8_bound_11 (by decide) ?_
    refine r_put C (M2 := (mI M 135 7 (nI 0))) (Cn := RX8) (T := TX8) (N := 18) (id := 135) (by decide) inw_X8 tyX8_ok nmX8 rfl rfl 7 (by decide) rfl fl_X8_41 rfl rfl (rfl) (Nat.le_of_ble_eq_true rfl) (fun j hj => ⟨mI_ne _ hj, rfl⟩) rfl dX8_bound_15 ?_
    refine r_aload_n C dX8_bound_18 rfl 0 rfl ?_
    refine r_get C (Cn := RX8) (T := TX8) (N := 18) (id := 135) (by decide) inw_X8 rfl rfl 7 (by decide) rfl fl_X8_41 rfl dX8_bound_19 ?_
    refine r_topi (w := nI 0) (rfl) ?_
    refine r_if_le C 29 dX8_bound_22 (by decide) (fun h22 => ?_) (fun h22 => ?_)
    ·
      refine r_aload_n C dX8_bound_29 rfl 0 rfl ?_
      refine r_iload_n C dX8_bound_30 rfl 1 rfl ?_
      refine r_callV_l (nA := 1) C (Nat.le_of_ble_eq_true rfl) [.int (nI p)] (c_X8_boundNow l D cs ad (mI M 135 7 (nI 0)) p (by omega) n hn hn8 wt U S H hBr) (tt_V ml_X8_191 im_X8_boundNow se_X8_boundNow in_X8 co_X8_boundNow) ⟨rfl, rfl⟩ ⟨rfl, by decide, by decide, by decide⟩ ⟨Nat.le_of_ble_eq_true rfl, Nat.le_of_ble_eq_true rfl⟩ (by decide) rfl rfl rfl rfl rfl (Nat.le_of_ble_eq_true rfl) dX8_bound_31 (fun ru1 Mu1 qu1 => ?_)
      obtain ⟨rfl, hSu1⟩ := qu1
      exact E 0 _ _ _ _ (Nat.le_of_ble_eq_true rfl) dX8_bound_34 (⟨rfl, hSu1⟩)
    · exact absurd h22 (by decide)
set_option maxRecDepth 100000 in
set_option maxHeartbeats 4000000 in
theorem c_X8_boundX (l : Launch) (D : va_G) (cs : Nat → ClassId) (ad : Nat → Nat) (M : Mm) (x : Int32) (hbad : wit x (nI 0) (nI 2) = false) : ∀ sz : Nat, Met l yX8_bound (.code yX8_bound cX8_bound 2 (some .long) :: TT) { frames := 1, cells := 0, slots := 0, locals := 22 } (va_Pc [.ref (ad 135), .int x] (fun U9 => U9.heap.size = sz ∧ wB D cs ad (fA ad sz) M U9)) (va_Ql (fun r M2 => r = lN 0 ∧ M2 = mI M 135 7 (nI 1)) (wB D cs ad (fA ad sz)) (fA ad sz)) 0 0 (fA ad sz) := by
  refine st_L (by decide) (Nat.le_of_ble_eq_true rfl) (fun κ C E => ?_)
  refine r_lv (lv2 := [(0, .ref (ad 135)), (1, .int x)]) [0, 1] rfl ?_
  refine r_aload_n C dX8_bound_0 rfl 0 rfl ?_
  refine r_iload_n C dX8_bound_1 rfl 1 rfl ?_
  refine r_iconst C (nI 0) dX8_bound_2 (by decide) ?_
  refine r_iconst C (nI 2) dX8_bound_3 (by decide) ?_
  refine r_pcallS_i (nA := 3) C (Nat.le_of_ble_eq_true rfl) [.int x, .int (nI 0), .int (nI 2)] (c_X8_within l D cs ad M x (nI 0) (nI 2) ) (tt_S ml_X8_48 st_X8_within in_X8 co_X8_within) ⟨rfl, rfl⟩ ⟨rfl, by decide, by decide, by decide⟩ ⟨Nat.le_of_ble_eq_true rfl, Nat.le_of_ble_eq_true rfl⟩ rfl rfl (Nat.le_of_ble_eq_true rfl) dX8_bound_4 ?_
  refine r_ifB_eq C 14 dX8_bound_7 (by decide) (fun h7 => ?_) (fun h7 => ?_)
  ·
    refine r_iconst C (nI 1) dX8_bound_14 (by decide) ?_
    refine r_put C (M2 := (mI M 135 7 (nI 1))) (Cn := RX8) (T := TX8) (N := 18) (id := 135) (by decide) inw_X8 tyX8_ok nmX8 rfl rfl 7 (by decide) rfl fl_X8_41 rfl rfl (rfl) (Nat.le_of_ble_eq_true rfl) (fun j hj => ⟨mI_ne _ hj, rfl⟩) rfl dX8_bound_15 ?_
    refine r_aload_n C dX8_bound_18 rfl 0 rfl ?_
    refine r_get C (Cn := RX8) (T := TX8) (N := 18) (id := 135) (by decide) inw_X8 rfl rfl 7 (by decide) rfl fl_X8_41 rfl dX8_bound_19 ?_
    refine r_topi (w := nI 1) (rfl) ?_
    refine r_if_le C 29 dX8_bound_22 (by decide) (fun h22 => ?_) (fun h22 => ?_)
    · exact absurd h22 (by decide)
    ·
      refine r_lconst C (lN 0) dX8_bound_25 rfl ?_
      refine r_goto C 34 dX8_bound_26 (by decide) ?_
      exact E 0 _ _ _ _ (Nat.le_of_ble_eq_true rfl) dX8_bound_34 (⟨rfl, rfl⟩)
  · exact absurd (h7.symm.trans hbad) (by decide)
set_option maxRecDepth 100000 in
set_option maxHeartbeats 4000000 in
theorem c_X8_reasonNow (l : Launch) (D : va_G) (cs : Nat → ClassId) (ad : Nat → Nat) (M : Mm) (w : Nat) (hw : w ≤ 2) (n : Nat) (hn : M.1 136 0 = nI n) (hn8 : n ≤ 8) : ∀ sz : Nat, Met l yX8_reasonNow (.code yX8_reasonNow cX8_reasonNow 3 (some .int) :: TT) { frames := 4, cells := 0, slots := 0, locals := 86 } (va_Pc [.ref (ad 135), .int (nI w)] (fun U9 => U9.heap.size = sz ∧ wB D cs ad (fA ad sz) M U9)) (va_Qi (fun r M2 => r = rnz (M.1 136) n w ∧ M2 = M) (wB D cs ad (fA ad sz)) (fA ad sz)) 0 0 (fA ad sz) := by
  refine st_I (by decide) (Nat.le_of_ble_eq_true rfl) (fun κ C E => ?_)
  refine r_lv (lv2 := [(0, .ref (ad 135)), (1, .int (nI w))]) [0, 1] rfl ?_
  refine r_aload_n C dX8_reasonNow_0 rfl 0 rfl ?_
  refine r_pcallV_i (nA := 0) C (Nat.le_of_ble_eq_true rfl) [] (c_X8_misfit l D cs ad M  n hn hn8) (tt_V ml_X8_76 im_X8_misfit se_X8_misfit in_X8 co_X8_misfit) ⟨rfl, rfl⟩ ⟨rfl, by decide, by decide, by decide⟩ ⟨Nat.le_of_ble_eq_true rfl, Nat.le_of_ble_eq_true rfl⟩ (by decide) rfl rfl rfl rfl rfl (Nat.le_of_ble_eq_true rfl) dX8_reasonNow_1 ?_
  refine r_istore_n C [(2, .int (mfR (M.1 136) n)), (0, .ref (ad 135)), (1, .int (nI w))] dX8_reasonNow_4 rfl (by decide) rfl ?_
  refine r_iload_n C dX8_reasonNow_5 rfl 2 rfl ?_
  refine r_ifN_ne C 14 dX8_reasonNow_6 (by decide) (by omega) (fun h6 => ?_) (fun h6 => ?_)
  ·
    refine r_iload_n C dX8_reasonNow_14 rfl 0 rfl ?_
    refine r_iconst C ((-1)) dX8_reasonNow_15 (by decide) ?_
    refine r_icmp_eq C 36 dX8_reasonNow_16 (by decide) (fun h16 => ?_) (fun h16 => ?_)
    ·
      refine r_iload_n C dX8_reasonNow_36 rfl 2 rfl ?_
      refine r_iconst C (nI 1) dX8_reasonNow_37 (by decide) ?_
      refine r_icmpN_ne C 48 dX8_reasonNow_38 (by decide) (by omega) (by omega) (fun h38 => ?_) (fun h38 => ?_)
      ·
        refine r_iconst C ((-1)) dX8_reasonNow_48 (by decide) ?_
        exact E 0 _ _ _ _ (Nat.le_of_ble_eq_true rfl) dX8_reasonNow_49 (⟨by simp [rnz, h6, h16, h38], rfl⟩)
      ·
        refine r_aload_n C dX8_reasonNow_41 rfl 1 rfl ?_
        refine r_pcallV_i (nA := 0) C (Nat.le_of_ble_eq_true rfl) [] (c_X8_unreached l D cs ad M  n hn hn8) (tt_V ml_X8_80 im_X8_unreached se_X8_unreached in_X8 co_X8_unreached) ⟨rfl, rfl⟩ ⟨rfl, by decide, by decide, by decide⟩ ⟨Nat.le_of_ble_eq_true rfl, Nat.le_of_ble_eq_true rfl⟩ (by decide) rfl rfl rfl rfl rfl (Nat.le_of_ble_eq_true rfl) dX8_reasonNow_42 ?_
        refine r_goto C 49 dX8_reasonNow_45 (by decide) ?_
        exact E 0 _ _ _ _ (Nat.le_of_ble_eq_true rfl) dX8_reasonNow_49 (⟨by simp [rnz, h6, h16, h38], rfl⟩)
    ·
      refine r_iload_n C dX8_reasonNow_19 rfl 2 rfl ?_
      refine r_iconst C (nI 1) dX8_reasonNow_20 (by decide) ?_
      refine r_icmpN_ne C 31 dX8_reasonNow_21 (by decide) (by omega) (by omega) (fun h21 => ?_) (fun h21 => ?_)
      ·
        refine r_iload_n C dX8_reasonNow_31 rfl 0 rfl ?_
        refine r_bipush C (nI 8) dX8_reasonNow_32 (by decide) ?_
        refine r_irem C dX8_reasonNow_34 (by decide) ?_
        exact E 0 _ _ _ _ (Nat.le_of_ble_eq_true rfl) dX8_reasonNow_35 (⟨by simp [rnz, h6, h16, h21], rfl⟩)
      ·
        refine r_iload_n C dX8_reasonNow_24 rfl 0 rfl ?_
        refine r_bipush C (nI 8) dX8_reasonNow_25 (by decide) ?_
        refine r_idiv C dX8_reasonNow_27 (by decide) ?_
        refine r_goto C 35 dX8_reasonNow_28 (by decide) ?_
        exact E 0 _ _ _ _ (Nat.le_of_ble_eq_true rfl) dX8_reasonNow_35 (⟨by simp [rnz, h6, h16, h21], rfl⟩)
  ·
    refine r_aload_n C dX8_reasonNow_9 rfl 1 rfl ?_
    refine r_pcallV_i (nA := 0) C (Nat.le_of_ble_eq_true rfl) [] (c_X8_reason l D cs ad M  n hn hn8) (tt_V ml_X8_186 im_X8_reason se_X8_reason in_X8 co_X8_reason) ⟨rfl, rfl⟩ ⟨rfl, by decide, by decide, by decide⟩ ⟨Nat.le_of_ble_eq_true rfl, Nat.le_of_ble_eq_true rfl⟩ (by decide) rfl rfl rfl rfl rfl (Nat.le_of_ble_eq_true rfl) dX8_reasonNow_10 ?_
    exact E 0 _ _ _ _ (Nat.le_of_ble_eq_true rfl) dX8_reasonNow_13 (⟨by simp [rnz, h6], rfl⟩)
set_option maxRecDepth 100000 in
set_option maxHeartbeats 4000000 in
theorem c_X8_whyNot (l : Launch) (D : va_G) (cs : Nat → ClassId) (ad : Nat → Nat) (M : Mm) (p : Nat) (hp : p ≤ 2) (n : Nat) (hn : M.1 136 0 = nI n) (hn8 : n ≤ 8) : ∀ sz : Nat, Met l yX8_whyNot (.code yX8_whyNot cX8_whyNot 2 (some .int) :: TT) { frames := 5, cells := 0, slots := 0, locals := 108 } (va_Pc [.ref (ad 135), .int (nI p)] (fun U9 => U9.heap.size = sz ∧ wB D cs ad (fA ad sz) M U9)) (va_Qi (fun r M2 => r = rnz (M.1 136) n p ∧ M2 = (mI M 135 7 (nI 0))) (wB D cs ad (fA ad sz)) (fA ad sz)) 0 0 (fA ad sz) := by
  have w1 : wit (nI p) (nI 0) (nI 2) = true := (wit_iff (by omega) (by omega) (by omega)).mpr ⟨by omega, hp⟩
  refine st_I (by decide) (Nat.le_of_ble_eq_true rfl) (fun κ C E => ?_)
  refine r_lv (lv2 := [(0, .ref (ad 135)), (1, .int (nI p))]) [0, 1] rfl ?_
  refine r_aload_n C dX8_whyNot_0 rfl 0 rfl ?_
  refine r_iload_n C dX8_whyNot_1 rfl 1 rfl ?_
  refine r_iconst C (nI 0) dX8_whyNot_2 (by decide) ?_
  refine r_iconst C (nI 2) dX8_whyNot_3 (by decide) ?_
  refine r_pcallS_i (nA := 3) C (Nat.le_of_ble_eq_true rfl) [.int (nI p), .int (nI 0), .int (nI 2)] (c_X8_within l D cs ad M (nI p) (nI 0) (nI 2) ) (tt_S ml_X8_48 st_X8_within in_X8 co_X8_within) ⟨rfl, rfl⟩ ⟨rfl, by decide, by decide, by decide⟩ ⟨Nat.le_of_ble_eq_true rfl, Nat.le_of_ble_eq_true rfl⟩ rfl rfl (Nat.le_of_ble_eq_true rfl) dX8_whyNot_4 ?_
  refine r_ifB_eq C 14 dX8_whyNot_7 (by decide) (fun h7 => ?_) (fun h7 => ?_)
  · exact absurd (h7.symm.trans w1) (by decide)
  ·
    refine r_iconst C (nI 0) dX8_whyNot_10 (by decide) ?_
    refine r_goto C 15 dX8_whyNot_11 (by decide) ?_
    refine r_put C (M2 := (mI M 135 7 (nI 0))) (Cn := RX8) (T := TX8) (N := 18) (id := 135) (by decide) inw_X8 tyX8_ok nmX8 rfl rfl 7 (by decide) rfl fl_X8_41 rfl rfl (rfl) (Nat.le_of_ble_eq_true rfl) (fun j hj => ⟨mI_ne _ hj, rfl⟩) rfl dX8_whyNot_15 ?_
    refine r_aload_n C dX8_whyNot_18 rfl 0 rfl ?_
    refine r_get C (Cn := RX8) (T := TX8) (N := 18) (id := 135) (by decide) inw_X8 rfl rfl 7 (by decide) rfl fl_X8_41 rfl dX8_whyNot_19 ?_
    refine r_topi (w := nI 0) (rfl) ?_
    refine r_if_le C 29 dX8_whyNot_22 (by decide) (fun h22 => ?_) (fun h22 => ?_)
    ·
      refine r_aload_n C dX8_whyNot_29 rfl 0 rfl ?_
      refine r_iload_n C dX8_whyNot_30 rfl 1 rfl ?_
      refine r_pcallV_i (nA := 1) C (Nat.le_of_ble_eq_true rfl) [.int (nI p)] (c_X8_reasonNow l D cs ad (mI M 135 7 (nI 0)) p (by omega) n hn hn8) (tt_V ml_X8_195 im_X8_reasonNow se_X8_reasonNow in_X8 co_X8_reasonNow) ⟨rfl, rfl⟩ ⟨rfl, by decide, by decide, by decide⟩ ⟨Nat.le_of_ble_eq_true rfl, Nat.le_of_ble_eq_true rfl⟩ (by decide) rfl rfl rfl rfl rfl (Nat.le_of_ble_eq_true rfl) dX8_whyNot_31 ?_
      refine r_topi (w := (rnz (M.1 136) n p)) rfl ?_
      exact E 0 _ _ _ _ (Nat.le_of_ble_eq_true rfl) dX8_whyNot_34 (⟨rfl, rfl⟩)
    · exact absurd h22 (by decide)
set_option maxRecDepth 100000 in
set_option maxHeartbeats 4000000 in
theorem c_X8_whyNotX (l : Launch) (D : va_G) (cs : Nat → ClassId) (ad : Nat → Nat) (M : Mm) (x : Int32) (hbad : wit x (nI 0) (nI 2) = false) : ∀ sz : Nat, Met l yX8_whyNot (.code yX8_whyNot cX8_whyNot 2 (some .int) :: TT) { frames := 1, cells := 0, slots := 0, locals := 22 } (va_Pc [.ref (ad 135), .int x] (fun U9 => U9.heap.size = sz ∧ wB D cs ad (fA ad sz) M U9)) (va_Qi (fun r M2 => r = nI 0 ∧ M2 = mI M 135 7 (nI 1)) (wB D cs ad (fA ad sz)) (fA ad sz)) 0 0 (fA ad sz) := by
  refine st_I (by decide) (Nat.le_of_ble_eq_true rfl) (fun κ C E => ?_)
  refine r_lv (lv2 := [(0, .ref (ad 135)), (1, .int x)]) [0, 1] rfl ?_
  refine r_aload_n C dX8_whyNot_0 rfl 0 rfl ?_
  refine r_iload_n C dX8_whyNot_1 rfl 1 rfl ?_
  refine r_iconst C (nI 0) dX8_whyNot_2 (by decide) ?_
  refine r_iconst C (nI 2) dX8_whyNot_3 (by decide) ?_
  refine r_pcallS_i (nA := 3) C (Nat.le_of_ble_eq_true rfl) [.int x, .int (nI 0), .int (nI 2)] (c_X8_within l D cs ad M x (nI 0) (nI 2) ) (tt_S ml_X8_48 st_X8_within in_X8 co_X8_within) ⟨rfl, rfl⟩ ⟨rfl, by decide, by decide, by decide⟩ ⟨Nat.le_of_ble_eq_true rfl, Nat.le_of_ble_eq_true rfl⟩ rfl rfl (Nat.le_of_ble_eq_true rfl) dX8_whyNot_4 ?_
  refine r_ifB_eq C 14 dX8_whyNot_7 (by decide) (fun h7 => ?_) (fun h7 => ?_)
  ·
    refine r_iconst C (nI 1) dX8_whyNot_14 (by decide) ?_
    refine r_put C (M2 := (mI M 135 7 (nI 1))) (Cn := RX8) (T := TX8) (N := 18) (id := 135) (by decide) inw_X8 tyX8_ok nmX8 rfl rfl 7 (by decide) rfl fl_X8_41 rfl rfl (rfl) (Nat.le_of_ble_eq_true rfl) (fun j hj => ⟨mI_ne _ hj, rfl⟩) rfl dX8_whyNot_15 ?_
    refine r_aload_n C dX8_whyNot_18 rfl 0 rfl ?_
    refine r_get C (Cn := RX8) (T := TX8) (N := 18) (id := 135) (by decide) inw_X8 rfl rfl 7 (by decide) rfl fl_X8_41 rfl dX8_whyNot_19 ?_
    refine r_topi (w := nI 1) (rfl) ?_
    refine r_if_le C 29 dX8_whyNot_22 (by decide) (fun h22 => ?_) (fun h22 => ?_)
    · exact absurd h22 (by decide)
    ·
      refine r_iconst C (nI 0) dX8_whyNot_25 (by decide) ?_
      refine r_goto C 34 dX8_whyNot_26 (by decide) ?_
      exact E 0 _ _ _ _ (Nat.le_of_ble_eq_true rfl) dX8_whyNot_34 (⟨rfl, rfl⟩)
  · exact absurd (h7.symm.trans hbad) (by decide)
set_option maxRecDepth 100000 in
set_option maxHeartbeats 4000000 in
theorem c_X8_isSize (l : Launch) (D : va_G) (cs : Nat → ClassId) (ad : Nat → Nat) (M : Mm) (x : Int32) : ∀ sz : Nat, Met l yX8_isSize (.code yX8_isSize cX8_isSize 1 (some .boolean) :: TT) { frames := 1, cells := 0, slots := 0, locals := 22 } (va_Pc [.int x] (fun U9 => U9.heap.size = sz ∧ wB D cs ad (fA ad sz) M U9)) (va_Qi (fun r M2 => r = bI (wit x (nI 1) (nI 2)) ∧ M2 = M) (wB D cs ad (fA ad sz)) (fA ad sz)) 0 0 (fA ad sz) := by
  refine st_Z (by decide) (Nat.le_of_ble_eq_true rfl) (fun κ C E => ?_)
  refine r_lv (lv2 := [(0, .int x)]) [0] rfl ?_
  refine r_iload_n C dX8_isSize_0 rfl 0 rfl ?_
  refine r_iconst C (nI 1) dX8_isSize_1 (by decide) ?_
  refine r_iconst C (nI 2) dX8_isSize_2 (by decide) ?_
  refine r_pcallS_i (nA := 3) C (Nat.le_of_ble_eq_true rfl) [.int x, .int (nI 1), .int (nI 2)] (c_X8_within l D cs ad M x (nI 1) (nI 2) ) (tt_S ml_X8_48 st_X8_within in_X8 co_X8_within) ⟨rfl, rfl⟩ ⟨rfl, by decide, by decide, by decide⟩ ⟨Nat.le_of_ble_eq_true rfl, Nat.le_of_ble_eq_true rfl⟩ rfl rfl (Nat.le_of_ble_eq_true rfl) dX8_isSize_3 ?_
  exact E 0 _ _ _ _ (Nat.le_of_ble_eq_true rfl) dX8_isSize_6 (bI_n _) (⟨rfl, rfl⟩)
set_option maxRecDepth 100000 in
set_option maxHeartbeats 4000000 in
theorem c_X8_bestNow (l : Launch) (D : va_G) (cs : Nat → ClassId) (ad : Nat → Nat) (M : Mm) (w : Nat) (n : Nat) (hn : M.1 136 0 = nI n) (hn8 : n ≤ 8) (d : Nat) (hd : M.1 136 1 = nI d) (hd4 : d ≤ 4) (size b : Nat) (hb : 2 * size + 1 = b) (hs1 : 1 ≤ size) (hs2 : size ≤ 2) (wt U : Nat → Nat) (S : Nat → Nat → Nat) (H : Nat → Nat) (hBB : lbHyp (M.1 136) n d b size wt U S H) (hw : w ≤ 1 ∨ (10 ≤ w ∧ w ≤ 13)) : ∀ sz : Nat, Met l yX8_bestNow (.code yX8_bestNow cX8_bestNow 4 (some .long) :: TT) { frames := 4, cells := 0, slots := 0, locals := 94 } (va_Pc [.ref (ad 135), .int (nI size), .int (nI w)] (fun U9 => U9.heap.size = sz ∧ wB D cs ad (fA ad sz) M U9)) (va_Ql (fun r M2 => r = bhz (M.1 136) n d b size wt U S H w ∧ SC M M2) (wB D cs ad (fA ad sz)) (fA ad sz)) 0 0 (fA ad sz) := by
  refine st_L (by decide) (Nat.le_of_ble_eq_true rfl) (fun κ C E => ?_)
  refine r_lv (lv2 := [(0, .ref (ad 135)), (1, .int (nI size)), (2, .int (nI w))]) [0, 1, 2] rfl ?_
  refine r_aload_n C dX8_bestNow_0 rfl 0 rfl ?_
  refine r_iload_n C dX8_bestNow_1 rfl 1 rfl ?_
  refine r_callV_i (nA := 1) C (Nat.le_of_ble_eq_true rfl) [.int (nI size)] (c_X8_layBest l D cs ad M  n hn hn8 d hd hd4 size b hb hs1 hs2 wt U S H hBB) (tt_V ml_X8_165 im_X8_layBest se_X8_layBest in_X8 co_X8_layBest) ⟨rfl, rfl⟩ ⟨rfl, by decide, by decide, by decide⟩ ⟨Nat.le_of_ble_eq_true rfl, Nat.le_of_ble_eq_true rfl⟩ (by decide) rfl rfl rfl rfl rfl (Nat.le_of_ble_eq_true rfl) dX8_bestNow_2 (fun ru1 Mu1 qu1 => ?_)
  obtain ⟨rfl, qu1⟩ := qu1
  refine r_istore_n C [(3, .int (bI (decide (0 < (lbF (M.1 136) n d b size wt U S H).2.1)))), (0, .ref (ad 135)), (1, .int (nI size)), (2, .int (nI w))] dX8_bestNow_5 rfl (by decide) rfl ?_
  refine r_iload_n C dX8_bestNow_6 rfl 3 rfl ?_
  refine r_iconst C (nI 2) dX8_bestNow_7 (by decide) ?_
  refine r_icmpN_ge C 37 dX8_bestNow_8 (by decide) (by omega) (by omega) (fun h8 => ?_) (fun h8 => ?_)
  ·
    refine r_aload_n C dX8_bestNow_37 rfl 1 rfl ?_
    refine r_get C (Cn := RX8) (T := TX8) (N := 18) (id := 135) (by decide) inw_X8 rfl rfl 15 (by decide) rfl fl_X8_31 rfl dX8_bestNow_38 ?_
    refine r_iload_n C dX8_bestNow_41 rfl 3 rfl ?_
    refine r_bipush C (nI 10) dX8_bestNow_42 (by decide) ?_
    refine r_isub C dX8_bestNow_44 ?_
    refine r_topi (pk_sub (a := w) (b := 10) (by omega)) ?_
    refine r_iald C (id := 143) (n := 4) (a := w - 10) (by decide) rfl (by omega) (by decide) dX8_bestNow_45 ?_
    refine r_topi (w := (bsD (M.1 136) d b size (lbF (M.1 136) n d b size wt U S H).2.2 (w - 10))) (qu1.2.2.2 (w - 10) (by omega)) ?_
    refine r_i2l C dX8_bestNow_46 ?_
    exact E 0 _ _ _ _ (Nat.le_of_ble_eq_true rfl) dX8_bestNow_47 (⟨by simp only [bhz]; simp [show (w < 2) = False from eq_false (by omega)], qu1.1⟩)
  ·
    refine r_iload_n C dX8_bestNow_11 rfl 0 rfl ?_
    refine r_ifB_ne C 21 dX8_bestNow_12 (by decide) (fun h12 => ?_) (fun h12 => ?_)
    ·
      refine r_iload_n C dX8_bestNow_21 rfl 3 rfl ?_
      refine r_ifN_ne C 32 dX8_bestNow_22 (by decide) (by omega) (fun h22 => ?_) (fun h22 => ?_)
      ·
        refine r_aload_n C dX8_bestNow_32 rfl 1 rfl ?_
        refine r_get C (Cn := RX8) (T := TX8) (N := 18) (id := 135) (by decide) inw_X8 rfl rfl 14 (by decide) rfl fl_X8_150 rfl dX8_bestNow_33 ?_
        refine r_topl (w := lN ((lbF (M.1 136) n d b size wt U S H).2.1)) (qu1.2.2.1) ?_
        exact E 0 _ _ _ _ (Nat.le_of_ble_eq_true rfl) dX8_bestNow_36 (⟨by simp only [bhz]; simp [show (w < 2) = True from eq_true (by omega), of_decide_eq_true h12, h22], qu1.1⟩)
      ·
        refine r_aload_n C dX8_bestNow_25 rfl 1 rfl ?_
        refine r_get C (Cn := RX8) (T := TX8) (N := 18) (id := 135) (by decide) inw_X8 rfl rfl 13 (by decide) rfl fl_X8_159 rfl dX8_bestNow_26 ?_
        refine r_topl (w := lN ((lbF (M.1 136) n d b size wt U S H).1)) (qu1.2.1 (of_decide_eq_true h12)) ?_
        refine r_goto C 36 dX8_bestNow_29 (by decide) ?_
        exact E 0 _ _ _ _ (Nat.le_of_ble_eq_true rfl) dX8_bestNow_36 (⟨by simp only [bhz]; simp [show (w < 2) = True from eq_true (by omega), of_decide_eq_true h12, h22], qu1.1⟩)
    ·
      refine r_ldc2 C (-1) k_X8_189 dX8_bestNow_15 ?_
      refine r_goto C 36 dX8_bestNow_18 (by decide) ?_
      exact E 0 _ _ _ _ (Nat.le_of_ble_eq_true rfl) dX8_bestNow_36 (⟨by simp only [bhz]; simp [show (w < 2) = True from eq_true (by omega), Nat.eq_zero_of_not_pos (of_decide_eq_false h12)], qu1.1⟩)
set_option maxRecDepth 100000 in
set_option maxHeartbeats 4000000 in
theorem c_X8_bestHandle (l : Launch) (D : va_G) (cs : Nat → ClassId) (ad : Nat → Nat) (M : Mm) (w : Nat) (n : Nat) (hn : M.1 136 0 = nI n) (hn8 : n ≤ 8) (d : Nat) (hd : M.1 136 1 = nI d) (hd4 : d ≤ 4) (size b : Nat) (hb : 2 * size + 1 = b) (hs1 : 1 ≤ size) (hs2 : size ≤ 2) (wt U : Nat → Nat) (S : Nat → Nat → Nat) (H : Nat → Nat) (hBB : lbHyp (M.1 136) n d b size wt U S H) (hw : w ≤ 1 ∨ (10 ≤ w ∧ w ≤ 13)) : ∀ sz : Nat, Met l yX8_bestHandle (.code yX8_bestHandle cX8_bestHandle 3 (some .long) :: TT) { frames := 5, cells := 0, slots := 0, locals := 117 } (va_Pc [.ref (ad 135), .int (nI size), .int (nI w)] (fun U9 => U9.heap.size = sz ∧ wB D cs ad (fA ad sz) M U9)) (va_Ql (fun r M2 => r = bhz (M.1 136) n d b size wt U S H w ∧ SC (mI M 135 7 (nI 0)) M2) (wB D cs ad (fA ad sz)) (fA ad sz)) 0 0 (fA ad sz) := by
  have w1 : wit (nI size) (nI 1) (nI 2) = true := (wit_iff (by omega) (by omega) (by omega)).mpr ⟨hs1, hs2⟩
  have w2 : wit (nI w) (nI 0) (nI 1) = decide (w ≤ 1) := by rw [Bool.eq_iff_iff, wit_iff (by omega) (by omega) (by omega), decide_eq_true_iff]; omega
  have w3 : wit (nI w) (nI 10) (nI 13) = decide (10 ≤ w ∧ w ≤ 13) := by rw [Bool.eq_iff_iff, wit_iff (by omega) (by omega) (by omega), decide_eq_true_iff]
  refine st_L (by decide) (Nat.le_of_ble_eq_true rfl) (fun κ C E => ?_)
  refine r_lv (lv2 := [(0, .ref (ad 135)), (1, .int (nI size)), (2, .int (nI w))]) [0, 1, 2] rfl ?_
  refine r_aload_n C dX8_bestHandle_0 rfl 0 rfl ?_
  refine r_iload_n C dX8_bestHandle_1 rfl 1 rfl ?_
  refine r_pcallS_i (nA := 1) C (Nat.le_of_ble_eq_true rfl) [.int (nI size)] (c_X8_isSize l D cs ad M (nI size) ) (tt_S ml_X8_162 st_X8_isSize in_X8 co_X8_isSize) ⟨rfl, rfl⟩ ⟨rfl, by decide, by decide, by decide⟩ ⟨Nat.le_of_ble_eq_true rfl, Nat.le_of_ble_eq_true rfl⟩ rfl rfl (Nat.le_of_ble_eq_true rfl) dX8_bestHandle_2 ?_
  refine r_ifB_eq C 32 dX8_bestHandle_5 (by decide) (fun h5 => ?_) (fun h5 => ?_)
  · exact absurd (h5.symm.trans w1) (by decide)
  ·
    refine r_iload_n C dX8_bestHandle_8 rfl 2 rfl ?_
    refine r_iconst C (nI 0) dX8_bestHandle_9 (by decide) ?_
    refine r_iconst C (nI 1) dX8_bestHandle_10 (by decide) ?_
    refine r_pcallS_i (nA := 3) C (Nat.le_of_ble_eq_true rfl) [.int (nI w), .int (nI 0), .int (nI 1)] (c_X8_within l D cs ad M (nI w) (nI 0) (nI 1) ) (tt_S ml_X8_48 st_X8_within in_X8 co_X8_within) ⟨rfl, rfl⟩ ⟨rfl, by decide, by decide, by decide⟩ ⟨Nat.le_of_ble_eq_true rfl, Nat.le_of_ble_eq_true rfl⟩ rfl rfl (Nat.le_of_ble_eq_true rfl) dX8_bestHandle_11 ?_
    refine r_ifB_ne C 28 dX8_bestHandle_14 (by decide) (fun h14 => ?_) (fun h14 => ?_)
    ·
      refine r_iconst C (nI 0) dX8_bestHandle_28 (by decide) ?_
      refine r_goto C 33 dX8_bestHandle_29 (by decide) ?_
      refine r_put C (M2 := (mI M 135 7 (nI 0))) (Cn := RX8) (T := TX8) (N := 18) (id := 135) (by decide) inw_X8 tyX8_ok nmX8 rfl rfl 7 (by decide) rfl fl_X8_41 rfl rfl (rfl) (Nat.le_of_ble_eq_true rfl) (fun j hj => ⟨mI_ne _ hj, rfl⟩) rfl dX8_bestHandle_33 ?_
      refine r_aload_n C dX8_bestHandle_36 rfl 0 rfl ?_
      refine r_get C (Cn := RX8) (T := TX8) (N := 18) (id := 135) (by decide) inw_X8 rfl rfl 7 (by decide) rfl fl_X8_41 rfl dX8_bestHandle_37 ?_
      refine r_topi (w := nI 0) (rfl) ?_
      refine r_if_le C 47 dX8_bestHandle_40 (by decide) (fun h40 => ?_) (fun h40 => ?_)
      ·
        refine r_aload_n C dX8_bestHandle_47 rfl 0 rfl ?_
        refine r_iload_n C dX8_bestHandle_48 rfl 1 rfl ?_
        refine r_iload_n C dX8_bestHandle_49 rfl 2 rfl ?_
        refine r_callV_l (nA := 2) C (Nat.le_of_ble_eq_true rfl) [.int (nI size), .int (nI w)] (c_X8_bestNow l D cs ad (mI M 135 7 (nI 0)) w n hn hn8 d hd hd4 size b hb hs1 hs2 wt U S H hBB (by omega)) (tt_V ml_X8_198 im_X8_bestNow se_X8_bestNow in_X8 co_X8_bestNow) ⟨rfl, rfl⟩ ⟨rfl, by decide, by decide, by decide⟩ ⟨Nat.le_of_ble_eq_true rfl, Nat.le_of_ble_eq_true rfl⟩ (by decide) rfl rfl rfl rfl rfl (Nat.le_of_ble_eq_true rfl) dX8_bestHandle_50 (fun ru1 Mu1 qu1 => ?_)
        obtain ⟨rfl, hSu1⟩ := qu1
        exact E 0 _ _ _ _ (Nat.le_of_ble_eq_true rfl) dX8_bestHandle_53 (⟨rfl, hSu1⟩)
      · exact absurd h40 (by decide)
    ·
      refine r_iload_n C dX8_bestHandle_17 rfl 2 rfl ?_
      refine r_bipush C (nI 10) dX8_bestHandle_18 (by decide) ?_
      refine r_bipush C (nI 13) dX8_bestHandle_20 (by decide) ?_
      refine r_pcallS_i (nA := 3) C (Nat.le_of_ble_eq_true rfl) [.int (nI w), .int (nI 10), .int (nI 13)] (c_X8_within l D cs ad M (nI w) (nI 10) (nI 13) ) (tt_S ml_X8_48 st_X8_within in_X8 co_X8_within) ⟨rfl, rfl⟩ ⟨rfl, by decide, by decide, by decide⟩ ⟨Nat.le_of_ble_eq_true rfl, Nat.le_of_ble_eq_true rfl⟩ rfl rfl (Nat.le_of_ble_eq_true rfl) dX8_bestHandle_22 ?_
      refine r_ifB_eq C 32 dX8_bestHandle_25 (by decide) (fun h25 => ?_) (fun h25 => ?_)
      ·
        rw [w2, decide_eq_false_iff_not] at h14; rw [w3, decide_eq_false_iff_not] at h25; omega
      ·
        refine r_iconst C (nI 0) dX8_bestHandle_28 (by decide) ?_
        refine r_goto C 33 dX8_bestHandle_29 (by decide) ?_
        refine r_put C (M2 := (mI M 135 7 (nI 0))) (Cn := RX8) (T := TX8) (N := 18) (id := 135) (by decide) inw_X8 tyX8_ok nmX8 rfl rfl 7 (by decide) rfl fl_X8_41 rfl rfl (rfl) (Nat.le_of_ble_eq_true rfl) (fun j hj => ⟨mI_ne _ hj, rfl⟩) rfl dX8_bestHandle_33 ?_
        refine r_aload_n C dX8_bestHandle_36 rfl 0 rfl ?_
        refine r_get C (Cn := RX8) (T := TX8) (N := 18) (id := 135) (by decide) inw_X8 rfl rfl 7 (by decide) rfl fl_X8_41 rfl dX8_bestHandle_37 ?_
        refine r_topi (w := nI 0) (rfl) ?_
        refine r_if_le C 47 dX8_bestHandle_40 (by decide) (fun h40 => ?_) (fun h40 => ?_)
        ·
          refine r_aload_n C dX8_bestHandle_47 rfl 0 rfl ?_
          refine r_iload_n C dX8_bestHandle_48 rfl 1 rfl ?_
          refine r_iload_n C dX8_bestHandle_49 rfl 2 rfl ?_
          refine r_callV_l (nA := 2) C (Nat.le_of_ble_eq_true rfl) [.int (nI size), .int (nI w)] (c_X8_bestNow l D cs ad (mI M 135 7 (nI 0)) w n hn hn8 d hd hd4 size b hb hs1 hs2 wt U S H hBB (by omega)) (tt_V ml_X8_198 im_X8_bestNow se_X8_bestNow in_X8 co_X8_bestNow) ⟨rfl, rfl⟩ ⟨rfl, by decide, by decide, by decide⟩ ⟨Nat.le_of_ble_eq_true rfl, Nat.le_of_ble_eq_true rfl⟩ (by decide) rfl rfl rfl rfl rfl (Nat.le_of_ble_eq_true rfl) dX8_bestHandle_50 (fun ru2 Mu2 qu2 => ?_)
          obtain ⟨rfl, hSu2⟩ := qu2
          exact E 0 _ _ _ _ (Nat.le_of_ble_eq_true rfl) dX8_bestHandle_53 (⟨rfl, hSu2⟩)
        · exact absurd h40 (by decide)
set_option maxRecDepth 100000 in
set_option maxHeartbeats 4000000 in
theorem c_X8_bestHandleX (l : Launch) (D : va_G) (cs : Nat → ClassId) (ad : Nat → Nat) (M : Mm) (x y : Int32) (hbad : (wit x (nI 1) (nI 2) && (wit y (nI 0) (nI 1) || wit y (nI 10) (nI 13))) = false) : ∀ sz : Nat, Met l yX8_bestHandle (.code yX8_bestHandle cX8_bestHandle 3 (some .long) :: TT) { frames := 2, cells := 0, slots := 0, locals := 42 } (va_Pc [.ref (ad 135), .int x, .int y] (fun U9 => U9.heap.size = sz ∧ wB D cs ad (fA ad sz) M U9)) (va_Ql (fun r M2 => r = lN 0 ∧ M2 = mI M 135 7 (nI 1)) (wB D cs ad (fA ad sz)) (fA ad sz)) 0 0 (fA ad sz) := by
  refine st_L (by decide) (Nat.le_of_ble_eq_true rfl) (fun κ C E => ?_)
  refine r_lv (lv2 := [(0, .ref (ad 135)), (1, .int x), (2, .int y)]) [0, 1, 2] rfl ?_
  refine r_aload_n C dX8_bestHandle_0 rfl 0 rfl ?_
  refine r_iload_n C dX8_bestHandle_1 rfl 1 rfl ?_
  refine r_pcallS_i (nA := 1) C (Nat.le_of_ble_eq_true rfl) [.int x] (c_X8_isSize l D cs ad M x ) (tt_S ml_X8_162 st_X8_isSize in_X8 co_X8_isSize) ⟨rfl, rfl⟩ ⟨rfl, by decide, by decide, by decide⟩ ⟨Nat.le_of_ble_eq_true rfl, Nat.le_of_ble_eq_true rfl⟩ rfl rfl (Nat.le_of_ble_eq_true rfl) dX8_bestHandle_2 ?_
  refine r_ifB_eq C 32 dX8_bestHandle_5 (by decide) (fun h5 => ?_) (fun h5 => ?_)
  ·
    refine r_iconst C (nI 1) dX8_bestHandle_32 (by decide) ?_
    refine r_put C (M2 := (mI M 135 7 (nI 1))) (Cn := RX8) (T := TX8) (N := 18) (id := 135) (by decide) inw_X8 tyX8_ok nmX8 rfl rfl 7 (by decide) rfl fl_X8_41 rfl rfl (rfl) (Nat.le_of_ble_eq_true rfl) (fun j hj => ⟨mI_ne _ hj, rfl⟩) rfl dX8_bestHandle_33 ?_
    refine r_aload_n C dX8_bestHandle_36 rfl 0 rfl ?_
    refine r_get C (Cn := RX8) (T := TX8) (N := 18) (id := 135) (by decide) inw_X8 rfl rfl 7 (by decide) rfl fl_X8_41 rfl dX8_bestHandle_37 ?_
    refine r_topi (w := nI 1) (rfl) ?_
    refine r_if_le C 47 dX8_bestHandle_40 (by decide) (fun h40 => ?_) (fun h40 => ?_)
    · exact absurd h40 (by decide)
    ·
      refine r_lconst C (lN 0) dX8_bestHandle_43 rfl ?_
      refine r_goto C 53 dX8_bestHandle_44 (by decide) ?_
      exact E 0 _ _ _ _ (Nat.le_of_ble_eq_true rfl) dX8_bestHandle_53 (⟨rfl, rfl⟩)
  ·
    refine r_iload_n C dX8_bestHandle_8 rfl 2 rfl ?_
    refine r_iconst C (nI 0) dX8_bestHandle_9 (by decide) ?_
    refine r_iconst C (nI 1) dX8_bestHandle_10 (by decide) ?_
    refine r_pcallS_i (nA := 3) C (Nat.le_of_ble_eq_true rfl) [.int y, .int (nI 0), .int (nI 1)] (c_X8_within l D cs ad M y (nI 0) (nI 1) ) (tt_S ml_X8_48 st_X8_within in_X8 co_X8_within) ⟨rfl, rfl⟩ ⟨rfl, by decide, by decide, by decide⟩ ⟨Nat.le_of_ble_eq_true rfl, Nat.le_of_ble_eq_true rfl⟩ rfl rfl (Nat.le_of_ble_eq_true rfl) dX8_bestHandle_11 ?_
    refine r_ifB_ne C 28 dX8_bestHandle_14 (by decide) (fun h14 => ?_) (fun h14 => ?_)
    ·
      simp [h5, h14] at hbad
    ·
      refine r_iload_n C dX8_bestHandle_17 rfl 2 rfl ?_
      refine r_bipush C (nI 10) dX8_bestHandle_18 (by decide) ?_
      refine r_bipush C (nI 13) dX8_bestHandle_20 (by decide) ?_
      refine r_pcallS_i (nA := 3) C (Nat.le_of_ble_eq_true rfl) [.int y, .int (nI 10), .int (nI 13)] (c_X8_within l D cs ad M y (nI 10) (nI 13) ) (tt_S ml_X8_48 st_X8_within in_X8 co_X8_within) ⟨rfl, rfl⟩ ⟨rfl, by decide, by decide, by decide⟩ ⟨Nat.le_of_ble_eq_true rfl, Nat.le_of_ble_eq_true rfl⟩ rfl rfl (Nat.le_of_ble_eq_true rfl) dX8_bestHandle_22 ?_
      refine r_ifB_eq C 32 dX8_bestHandle_25 (by decide) (fun h25 => ?_) (fun h25 => ?_)
      ·
        refine r_iconst C (nI 1) dX8_bestHandle_32 (by decide) ?_
        refine r_put C (M2 := (mI M 135 7 (nI 1))) (Cn := RX8) (T := TX8) (N := 18) (id := 135) (by decide) inw_X8 tyX8_ok nmX8 rfl rfl 7 (by decide) rfl fl_X8_41 rfl rfl (rfl) (Nat.le_of_ble_eq_true rfl) (fun j hj => ⟨mI_ne _ hj, rfl⟩) rfl dX8_bestHandle_33 ?_
        refine r_aload_n C dX8_bestHandle_36 rfl 0 rfl ?_
        refine r_get C (Cn := RX8) (T := TX8) (N := 18) (id := 135) (by decide) inw_X8 rfl rfl 7 (by decide) rfl fl_X8_41 rfl dX8_bestHandle_37 ?_
        refine r_topi (w := nI 1) (rfl) ?_
        refine r_if_le C 47 dX8_bestHandle_40 (by decide) (fun h40 => ?_) (fun h40 => ?_)
        · exact absurd h40 (by decide)
        ·
          refine r_lconst C (lN 0) dX8_bestHandle_43 rfl ?_
          refine r_goto C 53 dX8_bestHandle_44 (by decide) ?_
          exact E 0 _ _ _ _ (Nat.le_of_ble_eq_true rfl) dX8_bestHandle_53 (⟨rfl, rfl⟩)
      ·
        simp [h5, h14, h25] at hbad
/-- a row with its cells from 50 on overwritten by g, k of them -/
def rsK (z g : Nat → Int32) (k : Nat) : Nat → Int32 := fun j => if 50 ≤ j ∧ j < 50 + k then g (j - 50) else z j
theorem rsK_0 (z g : Nat → Int32) : rsK z g 0 = z := by funext j; unfold rsK; rw [if_neg (by omega)]
theorem rsK_s (z g : Nat → Int32) (p : Nat) : upd (rsK z g p) (50 + p) (g p) = rsK z g (p + 1) := by
  funext j; simp only [rsK, upd]; repeat' split
  all_goals first | rfl | (exfalso; omega) | (subst_vars; congr 1; omega)
set_option maxRecDepth 100000 in
set_option maxHeartbeats 4000000 in
theorem c_X8_takeHandle (l : Launch) (D : va_G) (cs : Nat → ClassId) (ad : Nat → Nat) (M : Mm) (n : Nat) (hn : M.1 136 0 = nI n) (hn8 : n ≤ 8) (d : Nat) (hd : M.1 136 1 = nI d) (hd4 : d ≤ 4) (s : Nat) (hs : M.1 135 1 = nI s) (hs6 : s ≤ 6) (size b : Nat) (hb : 2 * size + 1 = b) (hs1 : 1 ≤ size) (hs2 : size ≤ 2) (wt U : Nat → Nat) (S : Nat → Nat → Nat) (H : Nat → Nat) (hBB : lbHyp (M.1 136) n d b size wt U S H) : ∀ sz : Nat, Met l yX8_takeHandle (.code yX8_takeHandle cX8_takeHandle 3 (some .int) :: TT) { frames := 4, cells := 0, slots := 0, locals := 94 } (va_Pc [.ref (ad 135), .int (nI size)] (fun U9 => U9.heap.size = sz ∧ wB D cs ad (fA ad sz) M U9)) (va_Qi (fun r M2 => ∃ M3, SC (saveM (mI M 135 7 (nI 0)) s) M3 ∧ ((0 < (lbF (M.1 136) n d b size wt U S H).2.1 ∧ r = nI 1 ∧ M2 = mA M3 136 (rsK (M.1 136) (fun p => bsD (M.1 136) d b size (lbF (M.1 136) n d b size wt U S H).2.2 p) 4)) ∨ (¬ 0 < (lbF (M.1 136) n d b size wt U S H).2.1 ∧ r = nI 0 ∧ M2 = M3))) (wB D cs ad (fA ad sz)) (fA ad sz)) 0 0 (fA ad sz) := by
  have w1 : wit (nI size) (nI 1) (nI 2) = true := (wit_iff (by omega) (by omega) (by omega)).mpr ⟨hs1, hs2⟩
  refine st_I (by decide) (Nat.le_of_ble_eq_true rfl) (fun κ C E => ?_)
  refine r_lv (lv2 := [(0, .ref (ad 135)), (1, .int (nI size))]) [0, 1] rfl ?_
  refine r_aload_n C dX8_takeHandle_0 rfl 0 rfl ?_
  refine r_iload_n C dX8_takeHandle_1 rfl 1 rfl ?_
  refine r_pcallS_i (nA := 1) C (Nat.le_of_ble_eq_true rfl) [.int (nI size)] (c_X8_isSize l D cs ad M (nI size) ) (tt_S ml_X8_162 st_X8_isSize in_X8 co_X8_isSize) ⟨rfl, rfl⟩ ⟨rfl, by decide, by decide, by decide⟩ ⟨Nat.le_of_ble_eq_true rfl, Nat.le_of_ble_eq_true rfl⟩ rfl rfl (Nat.le_of_ble_eq_true rfl) dX8_takeHandle_2 ?_
  refine r_ifB_eq C 12 dX8_takeHandle_5 (by decide) (fun h5 => ?_) (fun h5 => ?_)
  · exact absurd (h5.symm.trans w1) (by decide)
  ·
    refine r_iconst C (nI 0) dX8_takeHandle_8 (by decide) ?_
    refine r_goto C 13 dX8_takeHandle_9 (by decide) ?_
    refine r_put C (M2 := (mI M 135 7 (nI 0))) (Cn := RX8) (T := TX8) (N := 18) (id := 135) (by decide) inw_X8 tyX8_ok nmX8 rfl rfl 7 (by decide) rfl fl_X8_41 rfl rfl (rfl) (Nat.le_of_ble_eq_true rfl) (fun j hj => ⟨mI_ne _ hj, rfl⟩) rfl dX8_takeHandle_13 ?_
    refine r_aload_n C dX8_takeHandle_16 rfl 0 rfl ?_
    refine r_get C (Cn := RX8) (T := TX8) (N := 18) (id := 135) (by decide) inw_X8 rfl rfl 7 (by decide) rfl fl_X8_41 rfl dX8_takeHandle_17 ?_
    refine r_topi (w := nI 0) (rfl) ?_
    refine r_if_le C 25 dX8_takeHandle_20 (by decide) (fun h20 => ?_) (fun h20 => ?_)
    ·
      refine r_aload_n C dX8_takeHandle_25 rfl 0 rfl ?_
      refine r_pcallV_v (nA := 0) C (Nat.le_of_ble_eq_true rfl) [] (c_X8_save l D cs ad (mI M 135 7 (nI 0))  s hs hs6) (tt_V ml_X8_110 im_X8_save se_X8_save in_X8 co_X8_save) ⟨rfl, rfl⟩ ⟨rfl, by decide, by decide, by decide⟩ ⟨Nat.le_of_ble_eq_true rfl, Nat.le_of_ble_eq_true rfl⟩ (by decide) rfl rfl rfl rfl rfl (Nat.le_of_ble_eq_true rfl) dX8_takeHandle_26 ?_
      refine r_aload_n C dX8_takeHandle_29 rfl 0 rfl ?_
      refine r_iload_n C dX8_takeHandle_30 rfl 1 rfl ?_
      refine r_callV_i (nA := 1) C (Nat.le_of_ble_eq_true rfl) [.int (nI size)] (c_X8_layBest l D cs ad (saveM (mI M 135 7 (nI 0)) s)  n hn hn8 d hd hd4 size b hb hs1 hs2 wt U S H hBB) (tt_V ml_X8_165 im_X8_layBest se_X8_layBest in_X8 co_X8_layBest) ⟨rfl, rfl⟩ ⟨rfl, by decide, by decide, by decide⟩ ⟨Nat.le_of_ble_eq_true rfl, Nat.le_of_ble_eq_true rfl⟩ (by decide) rfl rfl rfl rfl rfl (Nat.le_of_ble_eq_true rfl) dX8_takeHandle_31 (fun ru1 Mu1 qu1 => ?_)
      obtain ⟨rfl, qu1⟩ := qu1
      refine r_ifB_ne C 39 dX8_takeHandle_34 (by decide) (fun h34 => ?_) (fun h34 => ?_)
      ·
        refine r_iconst C (nI 0) dX8_takeHandle_39 (by decide) ?_
        refine r_istore_n C [(2, .int (nI 0)), (0, .ref (ad 135)), (1, .int (nI size))] dX8_takeHandle_40 rfl (by decide) rfl ?_
        have Lp : ∀ (f k : Nat), 4 + 1 ≤ k + f → k ≤ 4 → VV l D cs ad 3 κ 0 (mA Mu1 136 (rsK (M.1 136) (fun p => bsD (M.1 136) d b size (lbF (M.1 136) n d b size wt U S H).2.2 p) k)) 41 [(2, .int (nI k)), (0, .ref (ad 135)), (1, .int (nI size))] [] := by
          intro f
          induction f with
          | zero => intro k hk1 hk2; exact absurd hk1 (by omega)
          | succ f ih =>
            intro k hk1 hk2
            refine r_iload_n C dX8_takeHandle_41 rfl 0 rfl ?_
            refine r_iconst C (nI 4) dX8_takeHandle_42 (by decide) ?_
            refine r_icmpN_ge C 67 dX8_takeHandle_43 (by decide) (by omega) (by omega) (fun h43 => ?_) (fun h43 => ?_)
            ·
              have hk9 : 4 = k := by omega
              subst hk9
              refine r_iconst C (nI 1) dX8_takeHandle_67 (by decide) ?_
              exact E 0 _ _ _ _ (Nat.le_of_ble_eq_true rfl) dX8_takeHandle_68 (⟨Mu1, qu1.1, Or.inl ⟨of_decide_eq_true h34, rfl, rfl⟩⟩)
            ·
              refine r_aload_n C dX8_takeHandle_46 rfl 1 rfl ?_
              refine r_get C (Cn := RX8) (T := TX8) (N := 18) (id := 135) (by decide) inw_X8 rfl rfl 0 (by decide) rfl fl_X8_7 rfl dX8_takeHandle_47 ?_
              refine r_bipush C (nI 50) dX8_takeHandle_50 (by decide) ?_
              refine r_iload_n C dX8_takeHandle_52 rfl 0 rfl ?_
              refine r_iadd C dX8_takeHandle_53 ?_
              refine r_topi (nI_add 50 k) ?_
              refine r_aload_n C dX8_takeHandle_54 rfl 1 rfl ?_
              refine r_get C (Cn := RX8) (T := TX8) (N := 18) (id := 135) (by decide) inw_X8 rfl rfl 15 (by decide) rfl fl_X8_31 rfl dX8_takeHandle_55 ?_
              refine r_iload_n C dX8_takeHandle_58 rfl 0 rfl ?_
              refine r_iald C (id := 143) (n := 4) (a := k) (by decide) rfl (by omega) (by decide) dX8_takeHandle_59 ?_
              refine r_topi (w := (bsD (M.1 136) d b size (lbF (M.1 136) n d b size wt U S H).2.2 k)) (qu1.2.2.2 k (by omega)) ?_
              refine r_iast C (id := 136) (n := 55) (a := 50 + k) (by decide) (fun _ => rfl) (by omega) (by decide) dX8_takeHandle_60 ?_
              refine r_iinc C (nI (k + 1)) [(2, .int (nI (k + 1))), (0, .ref (ad 135)), (1, .int (nI size))] dX8_takeHandle_61 (j := 0) rfl (inc_n k 1) (by decide) rfl ?_
              refine r_goto C 41 dX8_takeHandle_64 (by decide) ?_
              refine r_lv (lv2 := [(2, .int (nI (k + 1))), (0, .ref (ad 135)), (1, .int (nI size))]) [0, 1, 2] rfl ?_
              refine r_mem (M2 := (mA Mu1 136 (rsK (M.1 136) (fun p => bsD (M.1 136) d b size (lbF (M.1 136) n d b size wt U S H).2.2 p) (k + 1)))) (by rw [mIA]; exact congrArg _ (rsK_s _ (fun p => bsD (M.1 136) d b size (lbF (M.1 136) n d b size wt U S H).2.2 p) _)) ?_
              exact ih (k + 1) (by omega) (by omega)
        refine r_lv (lv2 := [(2, .int (nI 0)), (0, .ref (ad 135)), (1, .int (nI size))]) [0, 1, 2] rfl ?_
        refine r_mem (M2 := (mA Mu1 136 (rsK (M.1 136) (fun p => bsD (M.1 136) d b size (lbF (M.1 136) n d b size wt U S H).2.2 p) 0))) (mA_id (by rw [rsK_0]; exact ((SC.r qu1.1 136 (by decide)).trans rfl).symm)) ?_
        exact Lp (4 + 1) 0 (by omega) (by omega)
      ·
        refine r_iconst C (nI 0) dX8_takeHandle_37 (by decide) ?_
        exact E 0 _ _ _ _ (Nat.le_of_ble_eq_true rfl) dX8_takeHandle_38 (⟨Mu1, qu1.1, Or.inr ⟨of_decide_eq_false h34, rfl, rfl⟩⟩)
    · exact absurd h20 (by decide)
set_option maxRecDepth 100000 in
set_option maxHeartbeats 4000000 in
theorem c_X8_takeHandleX (l : Launch) (D : va_G) (cs : Nat → ClassId) (ad : Nat → Nat) (M : Mm) (x : Int32) (hbad : wit x (nI 1) (nI 2) = false) : ∀ sz : Nat, Met l yX8_takeHandle (.code yX8_takeHandle cX8_takeHandle 3 (some .int) :: TT) { frames := 2, cells := 0, slots := 0, locals := 42 } (va_Pc [.ref (ad 135), .int x] (fun U9 => U9.heap.size = sz ∧ wB D cs ad (fA ad sz) M U9)) (va_Qi (fun r M2 => r = nI 0 ∧ M2 = mI M 135 7 (nI 1)) (wB D cs ad (fA ad sz)) (fA ad sz)) 0 0 (fA ad sz) := by
  refine st_I (by decide) (Nat.le_of_ble_eq_true rfl) (fun κ C E => ?_)
  refine r_lv (lv2 := [(0, .ref (ad 135)), (1, .int x)]) [0, 1] rfl ?_
  refine r_aload_n C dX8_takeHandle_0 rfl 0 rfl ?_
  refine r_iload_n C dX8_takeHandle_1 rfl 1 rfl ?_
  refine r_pcallS_i (nA := 1) C (Nat.le_of_ble_eq_true rfl) [.int x] (c_X8_isSize l D cs ad M x ) (tt_S ml_X8_162 st_X8_isSize in_X8 co_X8_isSize) ⟨rfl, rfl⟩ ⟨rfl, by decide, by decide, by decide⟩ ⟨Nat.le_of_ble_eq_true rfl, Nat.le_of_ble_eq_true rfl⟩ rfl rfl (Nat.le_of_ble_eq_true rfl) dX8_takeHandle_2 ?_
  refine r_ifB_eq C 12 dX8_takeHandle_5 (by decide) (fun h5 => ?_) (fun h5 => ?_)
  ·
    refine r_iconst C (nI 1) dX8_takeHandle_12 (by decide) ?_
    refine r_put C (M2 := (mI M 135 7 (nI 1))) (Cn := RX8) (T := TX8) (N := 18) (id := 135) (by decide) inw_X8 tyX8_ok nmX8 rfl rfl 7 (by decide) rfl fl_X8_41 rfl rfl (rfl) (Nat.le_of_ble_eq_true rfl) (fun j hj => ⟨mI_ne _ hj, rfl⟩) rfl dX8_takeHandle_13 ?_
    refine r_aload_n C dX8_takeHandle_16 rfl 0 rfl ?_
    refine r_get C (Cn := RX8) (T := TX8) (N := 18) (id := 135) (by decide) inw_X8 rfl rfl 7 (by decide) rfl fl_X8_41 rfl dX8_takeHandle_17 ?_
    refine r_topi (w := nI 1) (rfl) ?_
    refine r_if_le C 25 dX8_takeHandle_20 (by decide) (fun h20 => ?_) (fun h20 => ?_)
    · exact absurd h20 (by decide)
    ·
      refine r_iconst C (nI 0) dX8_takeHandle_23 (by decide) ?_
      exact E 0 _ _ _ _ (Nat.le_of_ble_eq_true rfl) dX8_takeHandle_24 (⟨rfl, rfl⟩)
  · exact absurd (h5.symm.trans hbad) (by decide)
set_option maxRecDepth 100000 in
set_option maxHeartbeats 4000000 in
theorem c_X8_counted (l : Launch) (D : va_G) (cs : Nat → ClassId) (ad : Nat → Nat) (M : Mm) (k : Nat) (n : Nat) (hn : M.1 136 0 = nI n) (hn8 : n ≤ 8) (d : Nat) (hd : M.1 136 1 = nI d) (hd4 : d ≤ 4) (hn1 : 1 ≤ n) (hex : fi (fun k => (cfC (M.1 136) n k).isSome) n < n) (hk : k ≤ 11) : ∀ sz : Nat, Met l yX8_counted (.code yX8_counted cX8_counted 2 (some .int) :: TT) { frames := 5, cells := 0, slots := 0, locals := 109 } (va_Pc [.ref (ad 135), .int (nI k)] (fun U9 => U9.heap.size = sz ∧ wB D cs ad (fA ad sz) M U9)) (va_Qi (fun r M2 => r = ctz (M.1 136) (M.1 139) (M.1 135 1) n d k ∧ SC M M2) (wB D cs ad (fA ad sz)) (fA ad sz)) 0 0 (fA ad sz) := by
  refine st_I (by decide) (Nat.le_of_ble_eq_true rfl) (fun κ C E => ?_)
  refine r_lv (lv2 := [(0, .ref (ad 135)), (1, .int (nI k))]) [0, 1] rfl ?_
  refine r_iload_n C dX8_counted_0 rfl 1 rfl ?_
  rcases (show k = 0 ∨ k = 1 ∨ k = 2 ∨ k = 3 ∨ k = 4 ∨ k = 5 ∨ k = 6 ∨ k = 7 ∨ k = 8 ∨ k = 9 ∨ k = 10 ∨ 10 < k by omega) with rfl | rfl | rfl | rfl | rfl | rfl | rfl | rfl | rfl | rfl | rfl | hsw
  ·
    refine r_tableIn C 60 dX8_counted_1 (by decide) (by decide) rfl (by decide) ?_
    refine r_aload_n C dX8_counted_60 rfl 0 rfl ?_
    refine r_get C (Cn := RX8) (T := TX8) (N := 18) (id := 135) (by decide) inw_X8 rfl rfl 0 (by decide) rfl fl_X8_7 rfl dX8_counted_61 ?_
    refine r_iload_n C dX8_counted_64 rfl 1 rfl ?_
    refine r_iald C (id := 136) (n := 55) (a := 0) (by decide) rfl (by decide) (by decide) dX8_counted_65 ?_
    refine r_topi hn ?_
    exact E 0 _ _ _ _ (Nat.le_of_ble_eq_true rfl) dX8_counted_66 (⟨rfl, SC.rf M⟩)
  ·
    refine r_tableIn C 60 dX8_counted_1 (by decide) (by decide) rfl (by decide) ?_
    refine r_aload_n C dX8_counted_60 rfl 0 rfl ?_
    refine r_get C (Cn := RX8) (T := TX8) (N := 18) (id := 135) (by decide) inw_X8 rfl rfl 0 (by decide) rfl fl_X8_7 rfl dX8_counted_61 ?_
    refine r_iload_n C dX8_counted_64 rfl 1 rfl ?_
    refine r_iald C (id := 136) (n := 55) (a := 1) (by decide) rfl (by decide) (by decide) dX8_counted_65 ?_
    refine r_topi hd ?_
    exact E 0 _ _ _ _ (Nat.le_of_ble_eq_true rfl) dX8_counted_66 (⟨rfl, SC.rf M⟩)
  ·
    refine r_tableIn C 67 dX8_counted_1 (by decide) (by decide) rfl (by decide) ?_
    refine r_aload_n C dX8_counted_67 rfl 0 rfl ?_
    refine r_pcallV_i (nA := 0) C (Nat.le_of_ble_eq_true rfl) [] (c_X8_edges l D cs ad M  n hn hn8) (tt_V ml_X8_120 im_X8_edges se_X8_edges in_X8 co_X8_edges) ⟨rfl, rfl⟩ ⟨rfl, by decide, by decide, by decide⟩ ⟨Nat.le_of_ble_eq_true rfl, Nat.le_of_ble_eq_true rfl⟩ (by decide) rfl rfl rfl rfl rfl (Nat.le_of_ble_eq_true rfl) dX8_counted_68 ?_
    exact E 0 _ _ _ _ (Nat.le_of_ble_eq_true rfl) dX8_counted_71 (⟨rfl, SC.rf M⟩)
  ·
    refine r_tableIn C 72 dX8_counted_1 (by decide) (by decide) rfl (by decide) ?_
    refine r_aload_n C dX8_counted_72 rfl 0 rfl ?_
    refine r_aload_n C dX8_counted_73 rfl 0 rfl ?_
    refine r_iconst C (nI 0) dX8_counted_74 (by decide) ?_
    refine r_pcallV_i (nA := 1) C (Nat.le_of_ble_eq_true rfl) [.int (nI 0)] (c_X8_heaviest l D cs ad M (nI 0) n hn hn8) (tt_V ml_X8_180 im_X8_heaviest se_X8_heaviest in_X8 co_X8_heaviest) ⟨rfl, rfl⟩ ⟨rfl, by decide, by decide, by decide⟩ ⟨Nat.le_of_ble_eq_true rfl, Nat.le_of_ble_eq_true rfl⟩ (by decide) rfl rfl rfl rfl rfl (Nat.le_of_ble_eq_true rfl) dX8_counted_75 ?_
    refine r_pcallV_i (nA := 1) C (Nat.le_of_ble_eq_true rfl) [.int (hvz (M.1 136) n (nI 0))] (c_X8_weightOf l D cs ad M (hvz (M.1 136) n (nI 0)) n hn hn8) (tt_V ml_X8_101 im_X8_weightOf se_X8_weightOf in_X8 co_X8_weightOf) ⟨rfl, rfl⟩ ⟨rfl, by decide, by decide, by decide⟩ ⟨Nat.le_of_ble_eq_true rfl, Nat.le_of_ble_eq_true rfl⟩ (by decide) rfl rfl rfl rfl rfl (Nat.le_of_ble_eq_true rfl) dX8_counted_78 ?_
    exact E 0 _ _ _ _ (Nat.le_of_ble_eq_true rfl) dX8_counted_81 (⟨rfl, SC.rf M⟩)
  ·
    refine r_tableIn C 82 dX8_counted_1 (by decide) (by decide) rfl (by decide) ?_
    refine r_aload_n C dX8_counted_82 rfl 0 rfl ?_
    refine r_iconst C (nI 0) dX8_counted_83 (by decide) ?_
    refine r_pcallV_i (nA := 1) C (Nat.le_of_ble_eq_true rfl) [.int (nI 0)] (c_X8_heaviest l D cs ad M (nI 0) n hn hn8) (tt_V ml_X8_180 im_X8_heaviest se_X8_heaviest in_X8 co_X8_heaviest) ⟨rfl, rfl⟩ ⟨rfl, by decide, by decide, by decide⟩ ⟨Nat.le_of_ble_eq_true rfl, Nat.le_of_ble_eq_true rfl⟩ (by decide) rfl rfl rfl rfl rfl (Nat.le_of_ble_eq_true rfl) dX8_counted_84 ?_
    exact E 0 _ _ _ _ (Nat.le_of_ble_eq_true rfl) dX8_counted_87 (⟨rfl, SC.rf M⟩)
  ·
    refine r_tableIn C 88 dX8_counted_1 (by decide) (by decide) rfl (by decide) ?_
    refine r_aload_n C dX8_counted_88 rfl 0 rfl ?_
    refine r_pcallV_i (nA := 0) C (Nat.le_of_ble_eq_true rfl) [] (c_X8_mostVertices l D cs ad M  n hn hn8) (tt_V ml_X8_202 im_X8_mostVertices se_X8_mostVertices in_X8 co_X8_mostVertices) ⟨rfl, rfl⟩ ⟨rfl, by decide, by decide, by decide⟩ ⟨Nat.le_of_ble_eq_true rfl, Nat.le_of_ble_eq_true rfl⟩ (by decide) rfl rfl rfl rfl rfl (Nat.le_of_ble_eq_true rfl) dX8_counted_89 ?_
    exact E 0 _ _ _ _ (Nat.le_of_ble_eq_true rfl) dX8_counted_92 (⟨rfl, SC.rf M⟩)
  ·
    refine r_tableIn C 93 dX8_counted_1 (by decide) (by decide) rfl (by decide) ?_
    refine r_aload_n C dX8_counted_93 rfl 0 rfl ?_
    refine r_callV_i (nA := 0) C (Nat.le_of_ble_eq_true rfl) [] (c_X8_colorAll l D cs ad M  n hn hn8 hn1 hex) (tt_V ml_X8_147 im_X8_colorAll se_X8_colorAll in_X8 co_X8_colorAll) ⟨rfl, rfl⟩ ⟨rfl, by decide, by decide, by decide⟩ ⟨Nat.le_of_ble_eq_true rfl, Nat.le_of_ble_eq_true rfl⟩ (by decide) rfl rfl rfl rfl rfl (Nat.le_of_ble_eq_true rfl) dX8_counted_94 (fun ru1 Mu1 qu1 => ?_)
    obtain ⟨c2, rfl, rfl, hc2⟩ := qu1
    exact E 0 _ _ _ _ (Nat.le_of_ble_eq_true rfl) dX8_counted_97 (⟨rfl, SC.col M c2⟩)
  ·
    refine r_tableIn C 98 dX8_counted_1 (by decide) (by decide) rfl (by decide) ?_
    refine r_aload_n C dX8_counted_98 rfl 0 rfl ?_
    refine r_pcallV_i (nA := 0) C (Nat.le_of_ble_eq_true rfl) [] (c_X8_misfits l D cs ad M  n hn hn8) (tt_V ml_X8_205 im_X8_misfits se_X8_misfits in_X8 co_X8_misfits) ⟨rfl, rfl⟩ ⟨rfl, by decide, by decide, by decide⟩ ⟨Nat.le_of_ble_eq_true rfl, Nat.le_of_ble_eq_true rfl⟩ (by decide) rfl rfl rfl rfl rfl (Nat.le_of_ble_eq_true rfl) dX8_counted_99 ?_
    exact E 0 _ _ _ _ (Nat.le_of_ble_eq_true rfl) dX8_counted_102 (⟨rfl, SC.rf M⟩)
  ·
    refine r_tableIn C 103 dX8_counted_1 (by decide) (by decide) rfl (by decide) ?_
    refine r_aload_n C dX8_counted_103 rfl 0 rfl ?_
    refine r_bipush C (nI 50) dX8_counted_104 (by decide) ?_
    refine r_bipush C (nI 50) dX8_counted_106 (by decide) ?_
    refine r_pcallV_i (nA := 2) C (Nat.le_of_ble_eq_true rfl) [.int (nI 50), .int (nI 50)] (c_X8_product l D cs ad M 50 50 (by omega) (by omega)) (tt_V ml_X8_60 im_X8_product se_X8_product in_X8 co_X8_product) ⟨rfl, rfl⟩ ⟨rfl, by decide, by decide, by decide⟩ ⟨Nat.le_of_ble_eq_true rfl, Nat.le_of_ble_eq_true rfl⟩ (by decide) rfl rfl rfl rfl rfl (Nat.le_of_ble_eq_true rfl) dX8_counted_108 ?_
    exact E 0 _ _ _ _ (Nat.le_of_ble_eq_true rfl) dX8_counted_111 (⟨rfl, SC.rf M⟩)
  ·
    refine r_tableIn C 112 dX8_counted_1 (by decide) (by decide) rfl (by decide) ?_
    refine r_aload_n C dX8_counted_112 rfl 0 rfl ?_
    refine r_get C (Cn := RX8) (T := TX8) (N := 18) (id := 135) (by decide) inw_X8 rfl rfl 0 (by decide) rfl fl_X8_7 rfl dX8_counted_113 ?_
    refine r_bipush C (nI 54) dX8_counted_116 (by decide) ?_
    refine r_iald C (id := 136) (n := 55) (a := 54) (by decide) rfl (by decide) (by decide) dX8_counted_118 ?_
    exact E 0 _ _ _ _ (Nat.le_of_ble_eq_true rfl) dX8_counted_119 (⟨rfl, SC.rf M⟩)
  ·
    refine r_tableIn C 120 dX8_counted_1 (by decide) (by decide) rfl (by decide) ?_
    refine r_aload_n C dX8_counted_120 rfl 0 rfl ?_
    refine r_get C (Cn := RX8) (T := TX8) (N := 18) (id := 135) (by decide) inw_X8 rfl rfl 4 (by decide) rfl fl_X8_19 rfl dX8_counted_121 ?_
    refine r_iconst C (nI 0) dX8_counted_124 (by decide) ?_
    refine r_iald C (id := 139) (n := 2) (a := 0) (by decide) rfl (by decide) (by decide) dX8_counted_125 ?_
    refine r_aload_n C dX8_counted_126 rfl 0 rfl ?_
    refine r_get C (Cn := RX8) (T := TX8) (N := 18) (id := 135) (by decide) inw_X8 rfl rfl 4 (by decide) rfl fl_X8_19 rfl dX8_counted_127 ?_
    refine r_iconst C (nI 1) dX8_counted_130 (by decide) ?_
    refine r_iald C (id := 139) (n := 2) (a := 1) (by decide) rfl (by decide) (by decide) dX8_counted_131 ?_
    refine r_iadd C dX8_counted_132 ?_
    exact E 0 _ _ _ _ (Nat.le_of_ble_eq_true rfl) dX8_counted_133 (⟨rfl, SC.rf M⟩)
  ·
    refine r_tableOut C 134 dX8_counted_1 (Or.inr (by rw [nI_toInt (by omega)]; omega)) (by decide) ?_
    refine r_aload_n C dX8_counted_134 rfl 0 rfl ?_
    refine r_get C (Cn := RX8) (T := TX8) (N := 18) (id := 135) (by decide) inw_X8 rfl rfl 1 (by decide) rfl fl_X8_45 rfl dX8_counted_135 ?_
    exact E 0 _ _ _ _ (Nat.le_of_ble_eq_true rfl) dX8_counted_138 (⟨by unfold ctz; rw [if_neg (by omega), if_neg (by omega), if_neg (by omega), if_neg (by omega), if_neg (by omega), if_neg (by omega), if_neg (by omega), if_neg (by omega), if_neg (by omega), if_neg (by omega), if_neg (by omega)], SC.rf M⟩)
set_option maxRecDepth 100000 in
set_option maxHeartbeats 4000000 in
theorem c_X8_count (l : Launch) (D : va_G) (cs : Nat → ClassId) (ad : Nat → Nat) (M : Mm) (k : Nat) (n : Nat) (hn : M.1 136 0 = nI n) (hn8 : n ≤ 8) (d : Nat) (hd : M.1 136 1 = nI d) (hd4 : d ≤ 4) (hn1 : 1 ≤ n) (hex : fi (fun k => (cfC (M.1 136) n k).isSome) n < n) (hk : k ≤ 11) : ∀ sz : Nat, Met l yX8_count (.code yX8_count cX8_count 2 (some .int) :: TT) { frames := 6, cells := 0, slots := 0, locals := 130 } (va_Pc [.ref (ad 135), .int (nI k)] (fun U9 => U9.heap.size = sz ∧ wB D cs ad (fA ad sz) M U9)) (va_Qi (fun r M2 => r = ctz (M.1 136) (M.1 139) (M.1 135 1) n d k ∧ SC (mI M 135 7 (nI 0)) M2) (wB D cs ad (fA ad sz)) (fA ad sz)) 0 0 (fA ad sz) := by
  have w1 : wit (nI k) (nI 0) (nI 11) = true := (wit_iff (by omega) (by omega) (by omega)).mpr ⟨by omega, hk⟩
  refine st_I (by decide) (Nat.le_of_ble_eq_true rfl) (fun κ C E => ?_)
  refine r_lv (lv2 := [(0, .ref (ad 135)), (1, .int (nI k))]) [0, 1] rfl ?_
  refine r_aload_n C dX8_count_0 rfl 0 rfl ?_
  refine r_iload_n C dX8_count_1 rfl 1 rfl ?_
  refine r_iconst C (nI 0) dX8_count_2 (by decide) ?_
  refine r_bipush C (nI 11) dX8_count_3 (by decide) ?_
  refine r_pcallS_i (nA := 3) C (Nat.le_of_ble_eq_true rfl) [.int (nI k), .int (nI 0), .int (nI 11)] (c_X8_within l D cs ad M (nI k) (nI 0) (nI 11) ) (tt_S ml_X8_48 st_X8_within in_X8 co_X8_within) ⟨rfl, rfl⟩ ⟨rfl, by decide, by decide, by decide⟩ ⟨Nat.le_of_ble_eq_true rfl, Nat.le_of_ble_eq_true rfl⟩ rfl rfl (Nat.le_of_ble_eq_true rfl) dX8_count_5 ?_
  refine r_ifB_eq C 15 dX8_count_8 (by decide) (fun h8 => ?_) (fun h8 => ?_)
  · exact absurd (h8.symm.trans w1) (by decide)
  ·
    refine r_iconst C (nI 0) dX8_count_11 (by decide) ?_
    refine r_goto C 16 dX8_count_12 (by decide) ?_
    refine r_put C (M2 := (mI M 135 7 (nI 0))) (Cn := RX8) (T := TX8) (N := 18) (id := 135) (by decide) inw_X8 tyX8_ok nmX8 rfl rfl 7 (by decide) rfl fl_X8_41 rfl rfl (rfl) (Nat.le_of_ble_eq_true rfl) (fun j hj => ⟨mI_ne _ hj, rfl⟩) rfl dX8_count_16 ?_
    refine r_aload_n C dX8_count_19 rfl 0 rfl ?_
    refine r_get C (Cn := RX8) (T := TX8) (N := 18) (id := 135) (by decide) inw_X8 rfl rfl 7 (by decide) rfl fl_X8_41 rfl dX8_count_20 ?_
    refine r_topi (w := nI 0) (rfl) ?_
    refine r_if_le C 30 dX8_count_23 (by decide) (fun h23 => ?_) (fun h23 => ?_)
    ·
      refine r_aload_n C dX8_count_30 rfl 0 rfl ?_
      refine r_iload_n C dX8_count_31 rfl 1 rfl ?_
      refine r_callV_i (nA := 1) C (Nat.le_of_ble_eq_true rfl) [.int (nI k)] (c_X8_counted l D cs ad (mI M 135 7 (nI 0)) k n hn hn8 d hd hd4 hn1 hex (by omega)) (tt_V ml_X8_208 im_X8_counted se_X8_counted in_X8 co_X8_counted) ⟨rfl, rfl⟩ ⟨rfl, by decide, by decide, by decide⟩ ⟨Nat.le_of_ble_eq_true rfl, Nat.le_of_ble_eq_true rfl⟩ (by decide) rfl rfl rfl rfl rfl (Nat.le_of_ble_eq_true rfl) dX8_count_32 (fun ru1 Mu1 qu1 => ?_)
      obtain ⟨rfl, hSu1⟩ := qu1
      exact E 0 _ _ _ _ (Nat.le_of_ble_eq_true rfl) dX8_count_35 (⟨rfl, hSu1⟩)
    · exact absurd h23 (by decide)
set_option maxRecDepth 100000 in
set_option maxHeartbeats 4000000 in
theorem c_X8_countX (l : Launch) (D : va_G) (cs : Nat → ClassId) (ad : Nat → Nat) (M : Mm) (x : Int32) (hbad : wit x (nI 0) (nI 11) = false) : ∀ sz : Nat, Met l yX8_count (.code yX8_count cX8_count 2 (some .int) :: TT) { frames := 1, cells := 0, slots := 0, locals := 22 } (va_Pc [.ref (ad 135), .int x] (fun U9 => U9.heap.size = sz ∧ wB D cs ad (fA ad sz) M U9)) (va_Qi (fun r M2 => r = nI 0 ∧ M2 = mI M 135 7 (nI 1)) (wB D cs ad (fA ad sz)) (fA ad sz)) 0 0 (fA ad sz) := by
  refine st_I (by decide) (Nat.le_of_ble_eq_true rfl) (fun κ C E => ?_)
  refine r_lv (lv2 := [(0, .ref (ad 135)), (1, .int x)]) [0, 1] rfl ?_
  refine r_aload_n C dX8_count_0 rfl 0 rfl ?_
  refine r_iload_n C dX8_count_1 rfl 1 rfl ?_
  refine r_iconst C (nI 0) dX8_count_2 (by decide) ?_
  refine r_bipush C (nI 11) dX8_count_3 (by decide) ?_
  refine r_pcallS_i (nA := 3) C (Nat.le_of_ble_eq_true rfl) [.int x, .int (nI 0), .int (nI 11)] (c_X8_within l D cs ad M x (nI 0) (nI 11) ) (tt_S ml_X8_48 st_X8_within in_X8 co_X8_within) ⟨rfl, rfl⟩ ⟨rfl, by decide, by decide, by decide⟩ ⟨Nat.le_of_ble_eq_true rfl, Nat.le_of_ble_eq_true rfl⟩ rfl rfl (Nat.le_of_ble_eq_true rfl) dX8_count_5 ?_
  refine r_ifB_eq C 15 dX8_count_8 (by decide) (fun h8 => ?_) (fun h8 => ?_)
  ·
    refine r_iconst C (nI 1) dX8_count_15 (by decide) ?_
    refine r_put C (M2 := (mI M 135 7 (nI 1))) (Cn := RX8) (T := TX8) (N := 18) (id := 135) (by decide) inw_X8 tyX8_ok nmX8 rfl rfl 7 (by decide) rfl fl_X8_41 rfl rfl (rfl) (Nat.le_of_ble_eq_true rfl) (fun j hj => ⟨mI_ne _ hj, rfl⟩) rfl dX8_count_16 ?_
    refine r_aload_n C dX8_count_19 rfl 0 rfl ?_
    refine r_get C (Cn := RX8) (T := TX8) (N := 18) (id := 135) (by decide) inw_X8 rfl rfl 7 (by decide) rfl fl_X8_41 rfl dX8_count_20 ?_
    refine r_topi (w := nI 1) (rfl) ?_
    refine r_if_le C 30 dX8_count_23 (by decide) (fun h23 => ?_) (fun h23 => ?_)
    · exact absurd h23 (by decide)
    ·
      refine r_iconst C (nI 0) dX8_count_26 (by decide) ?_
      refine r_goto C 35 dX8_count_27 (by decide) ?_
      exact E 0 _ _ _ _ (Nat.le_of_ble_eq_true rfl) dX8_count_35 (⟨rfl, rfl⟩)
  · exact absurd (h8.symm.trans hbad) (by decide)
set_option maxRecDepth 100000 in
set_option maxHeartbeats 4000000 in
theorem c_X8_near (l : Launch) (D : va_G) (cs : Nat → ClassId) (ad : Nat → Nat) (M : Mm) (n : Nat) (hn : M.1 136 0 = nI n) (hn8 : n ≤ 8) (wt U S : Nat → Nat) (H : Nat) (hBr : rsz (M.1 136) n = nI 0 → bnH (M.1 136) n wt U S H) (hnn : rsz (M.1 136) n = nI 0 → ¬ bnA wt U S H n = 0 → vf_n64 (FP.dmul (FP.i2d (wz (M.1 136) n (hvz (M.1 136) n (nI 0)))) (FP.l2d (lN (bnB wt U S H n)))) ∧ vf_n64 (FP.ddiv (FP.dmul (FP.i2d (wz (M.1 136) n (hvz (M.1 136) n (nI 0)))) (FP.l2d (lN (bnB wt U S H n)))) (FP.l2d (lN (bnA wt U S H n))))) : ∀ sz : Nat, Met l yX8_near (.code yX8_near cX8_near 1 (some .double) :: TT) { frames := 4, cells := 0, slots := 0, locals := 86 } (va_Pc [.ref (ad 135)] (fun U9 => U9.heap.size = sz ∧ wB D cs ad (fA ad sz) M U9)) (va_Qd (fun r M2 => r = nrz (M.1 136) n wt U S H ∧ SC M M2) (wB D cs ad (fA ad sz)) (fA ad sz)) 0 0 (fA ad sz) := by
  refine st_D (by decide) (Nat.le_of_ble_eq_true rfl) (fun κ C E => ?_)
  refine r_lv (lv2 := [(0, .ref (ad 135))]) [0] rfl ?_
  refine r_aload_n C dX8_near_0 rfl 0 rfl ?_
  refine r_pcallV_i (nA := 0) C (Nat.le_of_ble_eq_true rfl) [] (c_X8_reason l D cs ad M  n hn hn8) (tt_V ml_X8_186 im_X8_reason se_X8_reason in_X8 co_X8_reason) ⟨rfl, rfl⟩ ⟨rfl, by decide, by decide, by decide⟩ ⟨Nat.le_of_ble_eq_true rfl, Nat.le_of_ble_eq_true rfl⟩ (by decide) rfl rfl rfl rfl rfl (Nat.le_of_ble_eq_true rfl) dX8_near_1 ?_
  refine r_if_le C 9 dX8_near_4 (by decide) (fun h4 => ?_) (fun h4 => ?_)
  ·
    rw [rsz_0] at h4
    have hB := hBr h4
    have hAB := bnAB hB
    refine r_aload_n C dX8_near_9 rfl 0 rfl ?_
    refine r_pcallV_v (nA := 0) C (Nat.le_of_ble_eq_true rfl) [] (c_X8_layBound l D cs ad M  n hn hn8 wt U S H hB) (tt_V ml_X8_156 im_X8_layBound se_X8_layBound in_X8 co_X8_layBound) ⟨rfl, rfl⟩ ⟨rfl, by decide, by decide, by decide⟩ ⟨Nat.le_of_ble_eq_true rfl, Nat.le_of_ble_eq_true rfl⟩ (by decide) rfl rfl rfl rfl rfl (Nat.le_of_ble_eq_true rfl) dX8_near_10 ?_
    refine r_aload_n C dX8_near_13 rfl 0 rfl ?_
    refine r_get C (Cn := RX8) (T := TX8) (N := 18) (id := 135) (by decide) inw_X8 rfl rfl 8 (by decide) rfl fl_X8_83 rfl dX8_near_14 ?_
    refine r_topl (w := lN (bnA wt U S H n)) (rfl) ?_
    refine r_lconst C (lN 0) dX8_near_17 rfl ?_
    refine r_lcmp C dX8_near_18 ?_
    refine r_if_ne C 26 dX8_near_19 (by decide) (fun h19 => ?_) (fun h19 => ?_)
    ·
      rw [lgcN_ne (by omega) (by omega)] at h19
      refine r_aload_n C dX8_near_26 rfl 0 rfl ?_
      refine r_aload_n C dX8_near_27 rfl 0 rfl ?_
      refine r_iconst C (nI 0) dX8_near_28 (by decide) ?_
      refine r_pcallV_i (nA := 1) C (Nat.le_of_ble_eq_true rfl) [.int (nI 0)] (c_X8_heaviest l D cs ad (layM M wt U S H n) (nI 0) n hn hn8) (tt_V ml_X8_180 im_X8_heaviest se_X8_heaviest in_X8 co_X8_heaviest) ⟨rfl, rfl⟩ ⟨rfl, by decide, by decide, by decide⟩ ⟨Nat.le_of_ble_eq_true rfl, Nat.le_of_ble_eq_true rfl⟩ (by decide) rfl rfl rfl rfl rfl (Nat.le_of_ble_eq_true rfl) dX8_near_29 ?_
      refine r_topi (w := (hvz (M.1 136) n (nI 0))) rfl ?_
      refine r_pcallV_i (nA := 1) C (Nat.le_of_ble_eq_true rfl) [.int (hvz (M.1 136) n (nI 0))] (c_X8_weightOf l D cs ad (layM M wt U S H n) (hvz (M.1 136) n (nI 0)) n hn hn8) (tt_V ml_X8_101 im_X8_weightOf se_X8_weightOf in_X8 co_X8_weightOf) ⟨rfl, rfl⟩ ⟨rfl, by decide, by decide, by decide⟩ ⟨Nat.le_of_ble_eq_true rfl, Nat.le_of_ble_eq_true rfl⟩ (by decide) rfl rfl rfl rfl rfl (Nat.le_of_ble_eq_true rfl) dX8_near_32 ?_
      refine r_topi (w := (wz (M.1 136) n (hvz (M.1 136) n (nI 0)))) rfl ?_
      refine r_i2d C dX8_near_35 ?_
      refine r_aload_n C dX8_near_36 rfl 0 rfl ?_
      refine r_get C (Cn := RX8) (T := TX8) (N := 18) (id := 135) (by decide) inw_X8 rfl rfl 9 (by decide) rfl fl_X8_87 rfl dX8_near_37 ?_
      refine r_topl (w := lN (bnB wt U S H n)) (rfl) ?_
      refine r_l2d C dX8_near_40 ?_
      refine r_dmul C dX8_near_41 (hnn h4 h19).1 ?_
      refine r_aload_n C dX8_near_42 rfl 0 rfl ?_
      refine r_get C (Cn := RX8) (T := TX8) (N := 18) (id := 135) (by decide) inw_X8 rfl rfl 8 (by decide) rfl fl_X8_83 rfl dX8_near_43 ?_
      refine r_topl (w := lN (bnA wt U S H n)) (rfl) ?_
      refine r_l2d C dX8_near_46 ?_
      refine r_ddiv C dX8_near_47 (hnn h4 h19).2 ?_
      exact E 0 _ _ _ _ (Nat.le_of_ble_eq_true rfl) dX8_near_48 (⟨by simp [nrz, h4, h19], SC.lay _ _ _ _ _ _⟩)
    ·
      rw [lgcN_ne (by omega) (by omega)] at h19
      refine r_dconst0 C dX8_near_22 ?_
      refine r_goto C 48 dX8_near_23 (by decide) ?_
      exact E 0 _ _ _ _ (Nat.le_of_ble_eq_true rfl) dX8_near_48 (⟨by simp [nrz, h4, h19], SC.lay _ _ _ _ _ _⟩)
  ·
    rw [rsz_0] at h4
    refine r_dconst0 C dX8_near_7 ?_
    exact E 0 _ _ _ _ (Nat.le_of_ble_eq_true rfl) dX8_near_8 (⟨by simp [nrz, h4], SC.rf _⟩)
set_option maxRecDepth 100000 in
set_option maxHeartbeats 4000000 in
theorem c_X8_nearness (l : Launch) (D : va_G) (cs : Nat → ClassId) (ad : Nat → Nat) (M : Mm) (n : Nat) (hn : M.1 136 0 = nI n) (hn8 : n ≤ 8) (wt U S : Nat → Nat) (H : Nat) (hBr : rsz (M.1 136) n = nI 0 → bnH (M.1 136) n wt U S H) (hnn : rsz (M.1 136) n = nI 0 → ¬ bnA wt U S H n = 0 → vf_n64 (FP.dmul (FP.i2d (wz (M.1 136) n (hvz (M.1 136) n (nI 0)))) (FP.l2d (lN (bnB wt U S H n)))) ∧ vf_n64 (FP.ddiv (FP.dmul (FP.i2d (wz (M.1 136) n (hvz (M.1 136) n (nI 0)))) (FP.l2d (lN (bnB wt U S H n)))) (FP.l2d (lN (bnA wt U S H n))))) : ∀ sz : Nat, Met l yX8_nearness (.code yX8_nearness cX8_nearness 1 (some .double) :: TT) { frames := 5, cells := 0, slots := 0, locals := 106 } (va_Pc [.ref (ad 135)] (fun U9 => U9.heap.size = sz ∧ wB D cs ad (fA ad sz) M U9)) (va_Qd (fun r M2 => r = nrz (M.1 136) n wt U S H ∧ SC (mI M 135 7 (nI 0)) M2) (wB D cs ad (fA ad sz)) (fA ad sz)) 0 0 (fA ad sz) := by
  refine st_D (by decide) (Nat.le_of_ble_eq_true rfl) (fun κ C E => ?_)
  refine r_lv (lv2 := [(0, .ref (ad 135))]) [0] rfl ?_
  refine r_aload_n C dX8_nearness_0 rfl 0 rfl ?_
  refine r_iconst C (nI 0) dX8_nearness_1 (by decide) ?_
  refine r_put C (M2 := (mI M 135 7 (nI 0))) (Cn := RX8) (T := TX8) (N := 18) (id := 135) (by decide) inw_X8 tyX8_ok nmX8 rfl rfl 7 (by decide) rfl fl_X8_41 rfl rfl (rfl) (Nat.le_of_ble_eq_true rfl) (fun j hj => ⟨mI_ne _ hj, rfl⟩) rfl dX8_nearness_2 ?_
  refine r_aload_n C dX8_nearness_5 rfl 0 rfl ?_
  refine r_callV_d (nA := 0) C (Nat.le_of_ble_eq_true rfl) [] (c_X8_near l D cs ad (mI M 135 7 (nI 0))  n hn hn8 wt U S H hBr hnn) (tt_V ml_X8_211 im_X8_near se_X8_near in_X8 co_X8_near) ⟨rfl, rfl⟩ ⟨rfl, by decide, by decide, by decide⟩ ⟨Nat.le_of_ble_eq_true rfl, Nat.le_of_ble_eq_true rfl⟩ (by decide) rfl rfl rfl rfl rfl (Nat.le_of_ble_eq_true rfl) dX8_nearness_6 (fun ru1 Mu1 qu1 => ?_)
  obtain ⟨rfl, hSu1⟩ := qu1
  exact E 0 _ _ _ _ (Nat.le_of_ble_eq_true rfl) dX8_nearness_9 (⟨rfl, hSu1⟩)
