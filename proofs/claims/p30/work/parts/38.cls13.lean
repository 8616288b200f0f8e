/-! ===== the class: what its calls share (written by wip/whole/gen/cls13.py) ===== -/
theorem wit_no2 {x : Int32} (h : wit x (nI 0) (nI 1) = false) (h1 : ¬ x < 0) (h2 : x < nI 2) : False := wit_no (n := 2) (by decide) (by decide) h h1 h2
theorem wit_lo {x a b : Int32} (h : wit x a b = true) : ¬ x < a := (wit_1.mp h).1
theorem wit_hi {x a b : Int32} (h : wit x a b = true) : x ≤ b := Int32.not_lt.mp (wit_1.mp h).2
theorem wit_nn {x a b : Int32} (h : wit x a b = false) (h1 : ¬ x < a) (h2 : x ≤ b) : False := (wit_0.mp h).elim h1 (fun q => absurd q (Int32.not_lt.mpr h2))
set_option maxRecDepth 100000 in
set_option maxHeartbeats 4000000 in
theorem c_X7_checkVertex (l : Launch) (D : va_G) (cs : Nat → ClassId) (ad : Nat → Nat) (M : Mm) (n : Nat) (hn : M.1 (gO 0) 0 = nI n) (hn8 : n ≤ 8) (a : Nat) (ha : a < n) : ∀ sz : Nat, Met l yX7_checkVertex (.code yX7_checkVertex cX7_checkVertex 2 none :: TT) { frames := 0, cells := 0, slots := 0, locals := 0 } (va_Pc [.ref (ad 117), .int (nI a)] (fun U9 => U9.heap.size = sz ∧ wB D cs ad (fA ad sz) M U9)) (va_Qv (fun M2 => M2 = M) (wB D cs ad (fA ad sz)) (fA ad sz)) 0 0 (fA ad sz) := by
  refine st_V (by decide) (Nat.le_of_ble_eq_true rfl) (fun κ C E => ?_)
  refine r_lv (lv2 := [(0, .ref (ad 117)), (1, .int (nI a))]) [0, 1] rfl ?_
  refine r_iload_n C dX7_checkVertex_0 rfl 1 rfl ?_
  refine r_if_lt C 15 dX7_checkVertex_1 (by decide) (fun h1 => ?_) (fun h1 => ?_)
  · exact absurd h1 (nI_n0 (by omega))
  ·
    refine r_iload_n C dX7_checkVertex_4 rfl 1 rfl ?_
    refine r_aload_n C dX7_checkVertex_5 rfl 0 rfl ?_
    refine r_get C (Cn := RX7) (T := TX7) (N := 10) (id := 117) (by decide) inw_X7 rfl rfl 0 (by decide) rfl fl_X7_12 rfl dX7_checkVertex_6 ?_
    refine r_get C (Cn := RX4) (T := TX4) (N := 6) (id := (gO 0)) (by simp only [gO, gN, gW, gL, gR, gH] <;> omega) inw_X4 (wF_O cs ad (by decide) _ _) rfl 0 (by decide) rfl fl_X7_77 rfl dX7_checkVertex_9 ?_
    refine r_topi (w := nI n) hn ?_
    refine r_icmpN_lt C 26 dX7_checkVertex_12 (by decide) (by omega) (by omega) (fun h12 => ?_) (fun h12 => ?_)
    ·
      exact E 0 _ _ _ (Nat.le_of_ble_eq_true rfl) dX7_checkVertex_26 (rfl)
    · exact absurd ha h12
set_option maxRecDepth 100000 in
set_option maxHeartbeats 4000000 in
theorem c_X7_checkPlace (l : Launch) (D : va_G) (cs : Nat → ClassId) (ad : Nat → Nat) (M : Mm) (d : Nat) (hd : M.1 (gO 0) 1 = nI d) (hd4 : d ≤ 4) (a : Nat) (ha : a < d) : ∀ sz : Nat, Met l yX7_checkPlace (.code yX7_checkPlace cX7_checkPlace 2 none :: TT) { frames := 0, cells := 0, slots := 0, locals := 0 } (va_Pc [.ref (ad 117), .int (nI a)] (fun U9 => U9.heap.size = sz ∧ wB D cs ad (fA ad sz) M U9)) (va_Qv (fun M2 => M2 = M) (wB D cs ad (fA ad sz)) (fA ad sz)) 0 0 (fA ad sz) := by
  refine st_V (by decide) (Nat.le_of_ble_eq_true rfl) (fun κ C E => ?_)
  refine r_lv (lv2 := [(0, .ref (ad 117)), (1, .int (nI a))]) [0, 1] rfl ?_
  refine r_iload_n C dX7_checkPlace_0 rfl 1 rfl ?_
  refine r_if_lt C 15 dX7_checkPlace_1 (by decide) (fun h1 => ?_) (fun h1 => ?_)
  · exact absurd h1 (nI_n0 (by omega))
  ·
    refine r_iload_n C dX7_checkPlace_4 rfl 1 rfl ?_
    refine r_aload_n C dX7_checkPlace_5 rfl 0 rfl ?_
    refine r_get C (Cn := RX7) (T := TX7) (N := 10) (id := 117) (by decide) inw_X7 rfl rfl 0 (by decide) rfl fl_X7_12 rfl dX7_checkPlace_6 ?_
    refine r_get C (Cn := RX4) (T := TX4) (N := 6) (id := (gO 0)) (by simp only [gO, gN, gW, gL, gR, gH] <;> omega) inw_X4 (wF_O cs ad (by decide) _ _) rfl 1 (by decide) rfl fl_X7_155 rfl dX7_checkPlace_9 ?_
    refine r_topi (w := nI d) hd ?_
    refine r_icmpN_lt C 26 dX7_checkPlace_12 (by decide) (by omega) (by omega) (fun h12 => ?_) (fun h12 => ?_)
    ·
      exact E 0 _ _ _ (Nat.le_of_ble_eq_true rfl) dX7_checkPlace_26 (rfl)
    · exact absurd ha h12
set_option maxRecDepth 100000 in
set_option maxHeartbeats 4000000 in
theorem c_X7_checkNumber (l : Launch) (D : va_G) (cs : Nat → ClassId) (ad : Nat → Nat) (M : Mm) (w : Int32) (hw : wit w (-9) (nI 9) = true) : ∀ sz : Nat, Met l yX7_checkNumber (.code yX7_checkNumber cX7_checkNumber 1 none :: TT) { frames := 0, cells := 0, slots := 0, locals := 0 } (va_Pc [.int w] (fun U9 => U9.heap.size = sz ∧ wB D cs ad (fA ad sz) M U9)) (va_Qv (fun M2 => M2 = M) (wB D cs ad (fA ad sz)) (fA ad sz)) 0 0 (fA ad sz) := by
  refine st_V (by decide) (Nat.le_of_ble_eq_true rfl) (fun κ C E => ?_)
  refine r_lv (lv2 := [(0, .int w)]) [0] rfl ?_
  refine r_iload_n C dX7_checkNumber_0 rfl 0 rfl ?_
  refine r_bipush C ((-9)) dX7_checkNumber_1 (by decide) ?_
  refine r_icmp_lt C 12 dX7_checkNumber_3 (by decide) (fun h3 => ?_) (fun h3 => ?_)
  · exact absurd h3 (wit_lo hw)
  ·
    refine r_iload_n C dX7_checkNumber_6 rfl 0 rfl ?_
    refine r_bipush C (nI 9) dX7_checkNumber_7 (by decide) ?_
    refine r_icmp_le C 23 dX7_checkNumber_9 (by decide) (fun h9 => ?_) (fun h9 => ?_)
    ·
      exact E 0 _ _ _ (Nat.le_of_ble_eq_true rfl) dX7_checkNumber_23 (rfl)
    · exact absurd (wit_hi hw) h9
set_option maxRecDepth 100000 in
set_option maxHeartbeats 4000000 in
theorem c_X7_checkPart (l : Launch) (D : va_G) (cs : Nat → ClassId) (ad : Nat → Nat) (M : Mm) (p : Nat) (hp : p ≤ 2) : ∀ sz : Nat, Met l yX7_checkPart (.code yX7_checkPart cX7_checkPart 1 none :: TT) { frames := 0, cells := 0, slots := 0, locals := 0 } (va_Pc [.int (nI p)] (fun U9 => U9.heap.size = sz ∧ wB D cs ad (fA ad sz) M U9)) (va_Qv (fun M2 => M2 = M) (wB D cs ad (fA ad sz)) (fA ad sz)) 0 0 (fA ad sz) := by
  refine st_V (by decide) (Nat.le_of_ble_eq_true rfl) (fun κ C E => ?_)
  refine r_lv (lv2 := [(0, .int (nI p))]) [0] rfl ?_
  refine r_iload_n C dX7_checkPart_0 rfl 0 rfl ?_
  refine r_if_lt C 9 dX7_checkPart_1 (by decide) (fun h1 => ?_) (fun h1 => ?_)
  · exact absurd h1 (nI_n0 (by omega))
  ·
    refine r_iload_n C dX7_checkPart_4 rfl 0 rfl ?_
    refine r_iconst C (nI 2) dX7_checkPart_5 (by decide) ?_
    refine r_icmpN_le C 20 dX7_checkPart_6 (by decide) (by omega) (by omega) (fun h6 => ?_) (fun h6 => ?_)
    ·
      exact E 0 _ _ _ (Nat.le_of_ble_eq_true rfl) dX7_checkPart_20 (rfl)
    · exact absurd hp h6
set_option maxRecDepth 100000 in
set_option maxHeartbeats 4000000 in
theorem c_X7_saveState (l : Launch) (D : va_G) (cs : Nat → ClassId) (ad : Nat → Nat) (M : Mm) (z : Nat → Int32) (n d : Nat) (hg : gv M 0 (gH 0) z n d) (hn8 : n ≤ 8) (lt : Nat) (hlt : M.1 120 2 = nI lt) (hlt6 : lt < 6) (s9 : Nat) (hs : M.1 120 3 = nI s9) (hs6 : s9 ≤ 6) : ∀ sz : Nat, Met l yX7_saveState (.code yX7_saveState cX7_saveState 1 none :: TT) { frames := 3, cells := 0, slots := 0, locals := 104 } (va_Pc [.ref (ad 117)] (fun U9 => U9.heap.size = sz ∧ wB D cs ad (fA ad sz) M U9)) (va_Qv (fun M2 => svP M M2 z n d lt s9 (M.1 117 9)) (wB D cs ad (fA ad sz)) (fA ad sz)) 0 0 (fA ad sz) := by
  refine st_V (by decide) (Nat.le_of_ble_eq_true rfl) (fun κ C E => ?_)
  refine r_lv (lv2 := [(0, .ref (ad 117))]) [0] rfl ?_
  refine r_aload_n C dX7_saveState_0 rfl 0 rfl ?_
  refine r_get C (Cn := RX7) (T := TX7) (N := 10) (id := 117) (by decide) inw_X7 rfl rfl 3 (by decide) rfl fl_X7_27 rfl dX7_saveState_1 ?_
  refine r_aload_n C dX7_saveState_4 rfl 0 rfl ?_
  refine r_get C (Cn := RX7) (T := TX7) (N := 10) (id := 117) (by decide) inw_X7 rfl rfl 0 (by decide) rfl fl_X7_12 rfl dX7_saveState_5 ?_
  refine r_aload_n C dX7_saveState_8 rfl 0 rfl ?_
  refine r_get C (Cn := RX7) (T := TX7) (N := 10) (id := 117) (by decide) inw_X7 rfl rfl 9 (by decide) rfl fl_X7_66 rfl dX7_saveState_9 ?_
  refine r_callV_v (nA := 2) C (Nat.le_of_ble_eq_true rfl) [.ref (ad (gO 0)), .int (M.1 117 9)] (c_X6_save l D cs ad M  z n d hg hn8 lt hlt hlt6 s9 hs hs6 (M.1 117 9)) (tt_V ml_X7_302 im_X6_save se_X6_save in_X6 co_X6_save) ⟨rfl, rfl⟩ ⟨rfl, by decide, by decide, by decide⟩ ⟨Nat.le_of_ble_eq_true rfl, Nat.le_of_ble_eq_true rfl⟩ (by decide) rfl rfl rfl rfl rfl (Nat.le_of_ble_eq_true rfl) dX7_saveState_12 (fun Mu1 qu1 => ?_)
  exact E 0 _ _ _ (Nat.le_of_ble_eq_true rfl) dX7_saveState_15 (qu1)
/-- what searchGraph leaves -/
def sgP (z : Nat → Int32) (n : Nat) (M M2 : Mm) : Prop := (∀ i, ¬ (125 ≤ i ∧ i ≤ 128) → M2.1 i = M.1 i) ∧ M2.2 = M.2 ∧ M2.1 125 1 = nI (cnK z n) ∧ (∀ j, j < n → M2.1 126 j = crs z n j) ∧ cqV M2 z n
theorem sg_e {z : Nat → Int32} {n : Nat} {M M1 M2 : Mm} (h1 : fnP z n M M1) (h2 : o2 127 128 M1 M2 ∧ cqV M2 z n) : sgP z n M M2 := by
  obtain ⟨a1, a2, a3, a4⟩ := h1
  refine ⟨fun i hi => ?_, h2.1.2.trans a2, ?_, fun j hj => ?_, h2.2⟩
  · rw [h2.1.1 i (by omega) (by omega), a1 i (by omega) (by omega)]
  · rw [h2.1.1 125 (by decide) (by decide)]; exact a3
  · rw [h2.1.1 126 (by decide) (by decide)]; exact a4 j hj
set_option maxRecDepth 100000 in
set_option maxHeartbeats 4000000 in
theorem c_X7_searchGraph (l : Launch) (D : va_G) (cs : Nat → ClassId) (ad : Nat → Nat) (M : Mm) (z : Nat → Int32) (n d : Nat) (hg : gv M 0 (gH 0) z n d) (hn8 : n ≤ 8) (hm : gm z n) (hsy : gs z n) (hn1 : 1 ≤ n) : ∀ sz : Nat, Met l yX7_searchGraph (.code yX7_searchGraph cX7_searchGraph 1 none :: TT) { frames := 41, cells := 0, slots := 0, locals := 1022 } (va_Pc [.ref (ad 117)] (fun U9 => U9.heap.size = sz ∧ wB D cs ad (fA ad sz) M U9)) (va_Qv (fun M2 => sgP z n M M2) (wB D cs ad (fA ad sz)) (fA ad sz)) 0 0 (fA ad sz) := by
  refine st_V (by decide) (Nat.le_of_ble_eq_true rfl) (fun κ C E => ?_)
  refine r_lv (lv2 := [(0, .ref (ad 117))]) [0] rfl ?_
  refine r_aload_n C dX7_searchGraph_0 rfl 0 rfl ?_
  refine r_get C (Cn := RX7) (T := TX7) (N := 10) (id := 117) (by decide) inw_X7 rfl rfl 5 (by decide) rfl fl_X7_41 rfl dX7_searchGraph_1 ?_
  refine r_aload_n C dX7_searchGraph_4 rfl 0 rfl ?_
  refine r_get C (Cn := RX7) (T := TX7) (N := 10) (id := 117) (by decide) inw_X7 rfl rfl 0 (by decide) rfl fl_X7_12 rfl dX7_searchGraph_5 ?_
  refine r_callV_v (nA := 1) C (Nat.le_of_ble_eq_true rfl) [.ref (ad (gO 0))] (c_X2_find l D cs ad M  z n d hg hn8 hm hsy hn1) (tt_V ml_X7_148 im_X2_find se_X2_find in_X2 co_X2_find) ⟨rfl, rfl⟩ ⟨rfl, by decide, by decide, by decide⟩ ⟨Nat.le_of_ble_eq_true rfl, Nat.le_of_ble_eq_true rfl⟩ (by decide) rfl rfl rfl rfl rfl (Nat.le_of_ble_eq_true rfl) dX7_searchGraph_8 (fun Mu1 qu1 => ?_)
  refine r_aload_n C dX7_searchGraph_11 rfl 0 rfl ?_
  refine r_get C (Cn := RX7) (T := TX7) (N := 10) (id := 117) (by decide) inw_X7 rfl rfl 6 (by decide) rfl fl_X7_48 rfl dX7_searchGraph_12 ?_
  refine r_aload_n C dX7_searchGraph_15 rfl 0 rfl ?_
  refine r_get C (Cn := RX7) (T := TX7) (N := 10) (id := 117) (by decide) inw_X7 rfl rfl 0 (by decide) rfl fl_X7_12 rfl dX7_searchGraph_16 ?_
  refine r_callV_v (nA := 1) C (Nat.le_of_ble_eq_true rfl) [.ref (ad (gO 0))] (c_X1_find l D cs ad Mu1  z n d (gv_k hg hn8 (fun i hi => qu1.1 i (by simp only [gH] at hi; omega) (by simp only [gH] at hi; omega))) hn8) (tt_V ml_X7_305 im_X1_find se_X1_find in_X1 co_X1_find) ⟨rfl, rfl⟩ ⟨rfl, by decide, by decide, by decide⟩ ⟨Nat.le_of_ble_eq_true rfl, Nat.le_of_ble_eq_true rfl⟩ (by decide) rfl rfl rfl rfl rfl (Nat.le_of_ble_eq_true rfl) dX7_searchGraph_19 (fun Mu2 qu2 => ?_)
  exact E 0 _ _ _ (Nat.le_of_ble_eq_true rfl) dX7_searchGraph_22 (sg_e qu1 qu2)
