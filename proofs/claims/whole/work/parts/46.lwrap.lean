/-! ===== the law's methods (written by wip/whole/gen/lwrap.py) ===== -/
set_option maxRecDepth 100000 in
set_option maxHeartbeats 4000000 in
theorem w_begin (l : Launch) (D : va_G) (cs : Nat → ClassId) (ad : Nat → Nat) (M : Mm) (z : Nat → Int32) (n d : Nat) (hg : gv M 0 (gH 0) z n d) (hn8 : n ≤ 8) (lt : Nat) (hlt : M.1 120 2 = nI lt) (hlt6 : lt < 6) (s9 : Nat) (hs : M.1 120 3 = nI s9) (hs6 : s9 ≤ 6) (a b : Nat) (ha1 : 1 ≤ a) (ha : a ≤ 8) (hb1 : 1 ≤ b) (hb : b ≤ 4) : ∀ sz : Nat, Met l yL_begin (.codeWith yL_begin cL_begin 5 (some .int) [(0, 10, 13, 13)] :: TT) { frames := 5, cells := 0, slots := 6 * 0, locals := 147 } (va_Pc [.ref (ad 117), .int (nI a), .int (nI b), .ref (ad 145)] (fun U9 => U9.heap.size = sz ∧ wB D cs ad (fA ad sz) M U9 ∧ xX (fA ad sz) U9 U9.heap)) (va_Qi (fun r M2 => r = nI 0 ∧ ∃ v9 M9, (fun r M2 => r = nI n ∧ chP M M2 z n d lt s9 (emR z a b) a b) v9 M9 ∧ M2 = mJ M9 145 0 (v9.toInt64)) (wB D cs ad (fA ad sz)) (fA ad sz)) 0 (6 * 0) (fA ad sz) := by
  refine st_W (by decide) (Nat.le_of_ble_eq_true rfl) (fun κ C hN hT E => ?_)
  refine r_lv (lv2 := [(0, .ref (ad 117)), (1, .int (nI a)), (2, .int (nI b)), (3, .ref (ad 145))]) [0, 1, 2, 3] rfl ?_
  refine r_aload_n C dL_begin_0 rfl 3 rfl ?_
  refine r_iconst C (nI 0) dL_begin_1 (by decide) ?_
  refine r_aload_n C dL_begin_2 rfl 0 rfl ?_
  refine r_iload_n C dL_begin_3 rfl 1 rfl ?_
  refine r_iload_n C dL_begin_4 rfl 2 rfl ?_
  refine r_ncallV_i (nA := 2) C hN (Nat.le_of_ble_eq_true rfl) [.int (nI a), .int (nI b)] (c_X7_begin l D cs ad M z n d hg hn8 lt hlt hlt6 s9 hs hs6 a b ha1 ha hb1 hb) (tt_V ml_L_7 im_X7_begin se_X7_begin in_X7 co_X7_begin) ⟨rfl, rfl⟩ ⟨rfl, by decide, by decide, by decide⟩ ⟨Nat.le_of_ble_eq_true rfl, Nat.le_of_ble_eq_true rfl⟩ (by decide) rfl rfl rfl rfl rfl (Nat.le_of_ble_eq_true rfl) dL_begin_5 (fun r1 Mu1 qu1 => ?_)
  refine r_i2l C dL_begin_8 ?_
  refine r_last C (id := 145) (n := 1) (a := 0) (by decide) (fun _ => rfl) (by decide) (by decide) dL_begin_9 ?_
  refine r_goto C 17 dL_begin_10 (by decide) ?_
  refine r_iconst C (nI 0) dL_begin_17 (by decide) ?_
  exact E 0 _ _ _ _ (Nat.le_of_ble_eq_true rfl) dL_begin_18 (⟨rfl, r1, Mu1, qu1, rfl⟩)
set_option maxRecDepth 100000 in
set_option maxHeartbeats 4000000 in
theorem w_beginX (l : Launch) (D : va_G) (cs : Nat → ClassId) (ad : Nat → Nat) (hfl : l.stackTraces = false) (M : Mm) (x y : Int32) (hbad : (wit x (nI 1) (nI 8) && wit y (nI 1) (nI 4)) = false) : ∀ sz : Nat, Met l yL_begin (.codeWith yL_begin cL_begin 5 (some .int) [(0, 10, 13, 13)] :: TT) { frames := 7, cells := 1, slots := 6 * 1, locals := 115 } (va_Pc [.ref (ad 117), .int x, .int y, .ref (ad 145)] (fun U9 => U9.heap.size = sz ∧ wB D cs ad (fA ad sz) M U9 ∧ xX (fA ad sz) U9 U9.heap)) (va_Qi (fun r M2 => r = nI 1 ∧ (fun M2 => M2 = M) M2) (wB D cs ad (fA ad sz)) (fA ad sz)) 1 (6 * 1) (fA ad sz) := by
  refine st_W (by decide) (Nat.le_of_ble_eq_true rfl) (fun κ C hN hT E => ?_)
  refine r_lv (lv2 := [(0, .ref (ad 117)), (1, .int x), (2, .int y), (3, .ref (ad 145))]) [0, 1, 2, 3] rfl ?_
  refine r_aload_n C dL_begin_0 rfl 3 rfl ?_
  refine r_iconst C (nI 0) dL_begin_1 (by decide) ?_
  refine r_aload_n C dL_begin_2 rfl 0 rfl ?_
  refine r_iload_n C dL_begin_3 rfl 1 rfl ?_
  refine r_iload_n C dL_begin_4 rfl 2 rfl ?_
  refine r_catch_i (nA := 2) C hN hT (Nat.le_of_ble_eq_true rfl) [.int x, .int y] (c_X7_beginX l D cs ad hfl M x y hbad) (tt_V ml_L_7 im_X7_begin se_X7_begin in_X7 co_X7_begin) ⟨rfl, rfl⟩ ⟨rfl, by decide, by decide, by decide⟩ ⟨Nat.le_of_ble_eq_true rfl, Nat.le_of_ble_eq_true rfl⟩ (by decide) rfl rfl rfl rfl rfl (Nat.le_of_ble_eq_true rfl) dL_begin_5 [] ⟨0, 10, 13, 13⟩ [] rfl (fun _ hz => absurd hz List.not_mem_nil) (by decide) (by decide) cl_L_13 (by decide +kernel) (fun q1 Mu1 qu1 => ?_)
  refine r_astore C [(4, .ref q1), (0, .ref (ad 117)), (1, .int x), (2, .int y), (3, .ref (ad 145))] dL_begin_13 (by decide) rfl ?_
  refine r_iconst C (nI 1) dL_begin_15 (by decide) ?_
  exact E 1 _ _ _ _ (Nat.le_of_ble_eq_true rfl) dL_begin_16 (⟨rfl, qu1⟩)
set_option maxRecDepth 100000 in
set_option maxHeartbeats 4000000 in
theorem w_join (l : Launch) (D : va_G) (cs : Nat → ClassId) (ad : Nat → Nat) (M : Mm) (z : Nat → Int32) (n d : Nat) (hg : gv M 0 (gH 0) z n d) (hn8 : n ≤ 8) (lt : Nat) (hlt : M.1 120 2 = nI lt) (hlt6 : lt < 6) (s9 : Nat) (hs : M.1 120 3 = nI s9) (hs6 : s9 ≤ 6) (a b : Nat) (i : Bool) (ha : a < n) (hb : b < n) (hab : a ≠ b) (hm2 : gm (joR z a b i) n) : ∀ sz : Nat, Met l yL_join (.codeWith yL_join cL_join 6 (some .int) [(0, 12, 15, 19), (0, 12, 19, 13)] :: TT) { frames := 5, cells := 0, slots := 6 * 0, locals := 147 } (va_Pc [.ref (ad 117), .int (nI a), .int (nI b), .int (bI i), .ref (ad 145)] (fun U9 => U9.heap.size = sz ∧ wB D cs ad (fA ad sz) M U9 ∧ xX (fA ad sz) U9 U9.heap)) (va_Qi (fun r M2 => r = nI 0 ∧ ∃ v9 M9, (fun r M2 => r = edz (joR z a b i) n ∧ chP M M2 z n d lt s9 (joR z a b i) n d) v9 M9 ∧ M2 = mJ M9 145 0 (v9.toInt64)) (wB D cs ad (fA ad sz)) (fA ad sz)) 0 (6 * 0) (fA ad sz) := by
  refine st_W (by decide) (Nat.le_of_ble_eq_true rfl) (fun κ C hN hT E => ?_)
  refine r_lv (lv2 := [(0, .ref (ad 117)), (1, .int (nI a)), (2, .int (nI b)), (3, .int (bI i)), (4, .ref (ad 145))]) [0, 1, 2, 3, 4] rfl ?_
  refine r_aload C dL_join_0 4 rfl ?_
  refine r_iconst C (nI 0) dL_join_2 (by decide) ?_
  refine r_aload_n C dL_join_3 rfl 0 rfl ?_
  refine r_iload_n C dL_join_4 rfl 1 rfl ?_
  refine r_iload_n C dL_join_5 rfl 2 rfl ?_
  refine r_iload_n C dL_join_6 rfl 3 rfl ?_
  refine r_ncallV_i (nA := 3) C hN (Nat.le_of_ble_eq_true rfl) [.int (nI a), .int (nI b), .int (bI i)] (c_X7_join l D cs ad M z n d hg hn8 lt hlt hlt6 s9 hs hs6 a b i ha hb hab hm2) (tt_V ml_L_15 im_X7_join se_X7_join in_X7 co_X7_join) ⟨rfl, rfl⟩ ⟨rfl, by decide, by decide, by decide⟩ ⟨Nat.le_of_ble_eq_true rfl, Nat.le_of_ble_eq_true rfl⟩ (by decide) rfl rfl rfl rfl rfl (Nat.le_of_ble_eq_true rfl) dL_join_7 (fun r1 Mu1 qu1 => ?_)
  refine r_i2l C dL_join_10 ?_
  refine r_last C (id := 145) (n := 1) (a := 0) (by decide) (fun _ => rfl) (by decide) (by decide) dL_join_11 ?_
  refine r_goto C 23 dL_join_12 (by decide) ?_
  refine r_iconst C (nI 0) dL_join_23 (by decide) ?_
  exact E 0 _ _ _ _ (Nat.le_of_ble_eq_true rfl) dL_join_24 (⟨rfl, r1, Mu1, qu1, rfl⟩)
set_option maxRecDepth 100000 in
set_option maxHeartbeats 4000000 in
theorem w_joinX1 (l : Launch) (D : va_G) (cs : Nat → ClassId) (ad : Nat → Nat) (hfl : l.stackTraces = false) (M : Mm) (z : Nat → Int32) (n d : Nat) (hg : gv M 0 (gH 0) z n d) (hn8 : n ≤ 8) (hn1 : 1 ≤ n) (x y : Int32) (i : Bool) (hbad : wit x (nI 0) (nI n - nI 1) = false) : ∀ sz : Nat, Met l yL_join (.codeWith yL_join cL_join 6 (some .int) [(0, 12, 15, 19), (0, 12, 19, 13)] :: TT) { frames := 8, cells := 1, slots := 6 * 1, locals := 136 } (va_Pc [.ref (ad 117), .int x, .int y, .int (bI i), .ref (ad 145)] (fun U9 => U9.heap.size = sz ∧ wB D cs ad (fA ad sz) M U9 ∧ xX (fA ad sz) U9 U9.heap)) (va_Qi (fun r M2 => r = nI 1 ∧ (fun M2 => M2 = M) M2) (wB D cs ad (fA ad sz)) (fA ad sz)) 1 (6 * 1) (fA ad sz) := by
  refine st_W (by decide) (Nat.le_of_ble_eq_true rfl) (fun κ C hN hT E => ?_)
  refine r_lv (lv2 := [(0, .ref (ad 117)), (1, .int x), (2, .int y), (3, .int (bI i)), (4, .ref (ad 145))]) [0, 1, 2, 3, 4] rfl ?_
  refine r_aload C dL_join_0 4 rfl ?_
  refine r_iconst C (nI 0) dL_join_2 (by decide) ?_
  refine r_aload_n C dL_join_3 rfl 0 rfl ?_
  refine r_iload_n C dL_join_4 rfl 1 rfl ?_
  refine r_iload_n C dL_join_5 rfl 2 rfl ?_
  refine r_iload_n C dL_join_6 rfl 3 rfl ?_
  refine r_catch_i (nA := 3) C hN hT (Nat.le_of_ble_eq_true rfl) [.int x, .int y, .int (bI i)] (c_X7_joinX1 l D cs ad hfl M z n d hg hn8 hn1 x y i hbad) (tt_V ml_L_15 im_X7_join se_X7_join in_X7 co_X7_join) ⟨rfl, rfl⟩ ⟨rfl, by decide, by decide, by decide⟩ ⟨Nat.le_of_ble_eq_true rfl, Nat.le_of_ble_eq_true rfl⟩ (by decide) rfl rfl rfl rfl rfl (Nat.le_of_ble_eq_true rfl) dL_join_7 [] ⟨0, 12, 15, 19⟩ [⟨0, 12, 19, 13⟩] rfl (fun _ hz => absurd hz List.not_mem_nil) (by decide) (by decide) cl_L_19 (by decide +kernel) (fun q1 Mu1 qu1 => ?_)
  refine r_astore C [(5, .ref q1), (0, .ref (ad 117)), (1, .int x), (2, .int y), (3, .int (bI i)), (4, .ref (ad 145))] dL_join_15 (by decide) rfl ?_
  refine r_iconst C (nI 1) dL_join_17 (by decide) ?_
  exact E 1 _ _ _ _ (Nat.le_of_ble_eq_true rfl) dL_join_18 (⟨rfl, qu1⟩)
set_option maxRecDepth 100000 in
set_option maxHeartbeats 4000000 in
theorem w_joinX2 (l : Launch) (D : va_G) (cs : Nat → ClassId) (ad : Nat → Nat) (hfl : l.stackTraces = false) (M : Mm) (z : Nat → Int32) (n d : Nat) (hg : gv M 0 (gH 0) z n d) (hn8 : n ≤ 8) (hn1 : 1 ≤ n) (a : Nat) (ha : a < n) (x : Int32) (i : Bool) (hbad : wit x (nI 0) (nI n - nI 1) = false) : ∀ sz : Nat, Met l yL_join (.codeWith yL_join cL_join 6 (some .int) [(0, 12, 15, 19), (0, 12, 19, 13)] :: TT) { frames := 8, cells := 1, slots := 6 * 1, locals := 136 } (va_Pc [.ref (ad 117), .int (nI a), .int x, .int (bI i), .ref (ad 145)] (fun U9 => U9.heap.size = sz ∧ wB D cs ad (fA ad sz) M U9 ∧ xX (fA ad sz) U9 U9.heap)) (va_Qi (fun r M2 => r = nI 1 ∧ (fun M2 => M2 = M) M2) (wB D cs ad (fA ad sz)) (fA ad sz)) 1 (6 * 1) (fA ad sz) := by
  refine st_W (by decide) (Nat.le_of_ble_eq_true rfl) (fun κ C hN hT E => ?_)
  refine r_lv (lv2 := [(0, .ref (ad 117)), (1, .int (nI a)), (2, .int x), (3, .int (bI i)), (4, .ref (ad 145))]) [0, 1, 2, 3, 4] rfl ?_
  refine r_aload C dL_join_0 4 rfl ?_
  refine r_iconst C (nI 0) dL_join_2 (by decide) ?_
  refine r_aload_n C dL_join_3 rfl 0 rfl ?_
  refine r_iload_n C dL_join_4 rfl 1 rfl ?_
  refine r_iload_n C dL_join_5 rfl 2 rfl ?_
  refine r_iload_n C dL_join_6 rfl 3 rfl ?_
  refine r_catch_i (nA := 3) C hN hT (Nat.le_of_ble_eq_true rfl) [.int (nI a), .int x, .int (bI i)] (c_X7_joinX2 l D cs ad hfl M z n d hg hn8 hn1 a ha x i hbad) (tt_V ml_L_15 im_X7_join se_X7_join in_X7 co_X7_join) ⟨rfl, rfl⟩ ⟨rfl, by decide, by decide, by decide⟩ ⟨Nat.le_of_ble_eq_true rfl, Nat.le_of_ble_eq_true rfl⟩ (by decide) rfl rfl rfl rfl rfl (Nat.le_of_ble_eq_true rfl) dL_join_7 [] ⟨0, 12, 15, 19⟩ [⟨0, 12, 19, 13⟩] rfl (fun _ hz => absurd hz List.not_mem_nil) (by decide) (by decide) cl_L_19 (by decide +kernel) (fun q1 Mu1 qu1 => ?_)
  refine r_astore C [(5, .ref q1), (0, .ref (ad 117)), (1, .int (nI a)), (2, .int x), (3, .int (bI i)), (4, .ref (ad 145))] dL_join_15 (by decide) rfl ?_
  refine r_iconst C (nI 1) dL_join_17 (by decide) ?_
  exact E 1 _ _ _ _ (Nat.le_of_ble_eq_true rfl) dL_join_18 (⟨rfl, qu1⟩)
set_option maxRecDepth 100000 in
set_option maxHeartbeats 4000000 in
theorem w_joinY (l : Launch) (D : va_G) (cs : Nat → ClassId) (ad : Nat → Nat) (hfl : l.stackTraces = false) (M : Mm) (z : Nat → Int32) (n d : Nat) (hg : gv M 0 (gH 0) z n d) (hn8 : n ≤ 8) (a : Nat) (ha : a < n) (i : Bool) : ∀ sz : Nat, Met l yL_join (.codeWith yL_join cL_join 6 (some .int) [(0, 12, 15, 19), (0, 12, 19, 13)] :: TT) { frames := 7, cells := 1, slots := 6 * 1, locals := 115 } (va_Pc [.ref (ad 117), .int (nI a), .int (nI a), .int (bI i), .ref (ad 145)] (fun U9 => U9.heap.size = sz ∧ wB D cs ad (fA ad sz) M U9 ∧ xX (fA ad sz) U9 U9.heap)) (va_Qi (fun r M2 => r = nI 2 ∧ (fun M2 => M2 = M) M2) (wB D cs ad (fA ad sz)) (fA ad sz)) 1 (6 * 1) (fA ad sz) := by
  refine st_W (by decide) (Nat.le_of_ble_eq_true rfl) (fun κ C hN hT E => ?_)
  refine r_lv (lv2 := [(0, .ref (ad 117)), (1, .int (nI a)), (2, .int (nI a)), (3, .int (bI i)), (4, .ref (ad 145))]) [0, 1, 2, 3, 4] rfl ?_
  refine r_aload C dL_join_0 4 rfl ?_
  refine r_iconst C (nI 0) dL_join_2 (by decide) ?_
  refine r_aload_n C dL_join_3 rfl 0 rfl ?_
  refine r_iload_n C dL_join_4 rfl 1 rfl ?_
  refine r_iload_n C dL_join_5 rfl 2 rfl ?_
  refine r_iload_n C dL_join_6 rfl 3 rfl ?_
  refine r_catch_i (nA := 3) C hN hT (Nat.le_of_ble_eq_true rfl) [.int (nI a), .int (nI a), .int (bI i)] (c_X7_joinY l D cs ad hfl M z n d hg hn8 a ha i) (tt_V ml_L_15 im_X7_join se_X7_join in_X7 co_X7_join) ⟨rfl, rfl⟩ ⟨rfl, by decide, by decide, by decide⟩ ⟨Nat.le_of_ble_eq_true rfl, Nat.le_of_ble_eq_true rfl⟩ (by decide) rfl rfl rfl rfl rfl (Nat.le_of_ble_eq_true rfl) dL_join_7 [⟨0, 12, 15, 19⟩] ⟨0, 12, 19, 13⟩ [] rfl (fun z hz => by rcases List.mem_singleton.mp hz with rfl; exact ⟨by decide, _, cl_L_19, by decide +kernel⟩) (by decide) (by decide) cl_L_13 (by decide +kernel) (fun q1 Mu1 qu1 => ?_)
  refine r_astore C [(5, .ref q1), (0, .ref (ad 117)), (1, .int (nI a)), (2, .int (nI a)), (3, .int (bI i)), (4, .ref (ad 145))] dL_join_19 (by decide) rfl ?_
  refine r_iconst C (nI 2) dL_join_21 (by decide) ?_
  exact E 1 _ _ _ _ (Nat.le_of_ble_eq_true rfl) dL_join_22 (⟨rfl, qu1⟩)
set_option maxRecDepth 100000 in
set_option maxHeartbeats 4000000 in
theorem w_weigh (l : Launch) (D : va_G) (cs : Nat → ClassId) (ad : Nat → Nat) (M : Mm) (z : Nat → Int32) (n d : Nat) (hg : gv M 0 (gH 0) z n d) (hn8 : n ≤ 8) (lt : Nat) (hlt : M.1 120 2 = nI lt) (hlt6 : lt < 6) (s9 : Nat) (hs : M.1 120 3 = nI s9) (hs6 : s9 ≤ 6) (v w : Nat) (hv : v < n) (hw : w ≤ 9) : ∀ sz : Nat, Met l yL_weigh (.codeWith yL_weigh cL_weigh 5 (some .int) [(0, 10, 13, 19), (0, 10, 17, 13)] :: TT) { frames := 5, cells := 0, slots := 6 * 0, locals := 147 } (va_Pc [.ref (ad 117), .int (nI v), .int (nI w), .ref (ad 145)] (fun U9 => U9.heap.size = sz ∧ wB D cs ad (fA ad sz) M U9 ∧ xX (fA ad sz) U9 U9.heap)) (va_Qi (fun r M2 => r = nI 0 ∧ ∃ v9 M9, (fun r M2 => r = z (2 + v) ∧ ∃ M1, svP M M1 z n d lt s9 (M.1 117 9) ∧ M2 = mI M1 (gW 0) v (nI w)) v9 M9 ∧ M2 = mJ M9 145 0 (v9.toInt64)) (wB D cs ad (fA ad sz)) (fA ad sz)) 0 (6 * 0) (fA ad sz) := by
  refine st_W (by decide) (Nat.le_of_ble_eq_true rfl) (fun κ C hN hT E => ?_)
  refine r_lv (lv2 := [(0, .ref (ad 117)), (1, .int (nI v)), (2, .int (nI w)), (3, .ref (ad 145))]) [0, 1, 2, 3] rfl ?_
  refine r_aload_n C dL_weigh_0 rfl 3 rfl ?_
  refine r_iconst C (nI 0) dL_weigh_1 (by decide) ?_
  refine r_aload_n C dL_weigh_2 rfl 0 rfl ?_
  refine r_iload_n C dL_weigh_3 rfl 1 rfl ?_
  refine r_iload_n C dL_weigh_4 rfl 2 rfl ?_
  refine r_ncallV_i (nA := 2) C hN (Nat.le_of_ble_eq_true rfl) [.int (nI v), .int (nI w)] (c_X7_weigh l D cs ad M z n d hg hn8 lt hlt hlt6 s9 hs hs6 v w hv hw) (tt_V ml_L_21 im_X7_weigh se_X7_weigh in_X7 co_X7_weigh) ⟨rfl, rfl⟩ ⟨rfl, by decide, by decide, by decide⟩ ⟨Nat.le_of_ble_eq_true rfl, Nat.le_of_ble_eq_true rfl⟩ (by decide) rfl rfl rfl rfl rfl (Nat.le_of_ble_eq_true rfl) dL_weigh_5 (fun r1 Mu1 qu1 => ?_)
  refine r_i2l C dL_weigh_8 ?_
  refine r_last C (id := 145) (n := 1) (a := 0) (by decide) (fun _ => rfl) (by decide) (by decide) dL_weigh_9 ?_
  refine r_goto C 21 dL_weigh_10 (by decide) ?_
  refine r_iconst C (nI 0) dL_weigh_21 (by decide) ?_
  exact E 0 _ _ _ _ (Nat.le_of_ble_eq_true rfl) dL_weigh_22 (⟨rfl, r1, Mu1, qu1, rfl⟩)
set_option maxRecDepth 100000 in
set_option maxHeartbeats 4000000 in
theorem w_weighX (l : Launch) (D : va_G) (cs : Nat → ClassId) (ad : Nat → Nat) (hfl : l.stackTraces = false) (M : Mm) (z : Nat → Int32) (n d : Nat) (hg : gv M 0 (gH 0) z n d) (hn8 : n ≤ 8) (hn1 : 1 ≤ n) (x y : Int32) (hbad : wit x (nI 0) (nI n - nI 1) = false) : ∀ sz : Nat, Met l yL_weigh (.codeWith yL_weigh cL_weigh 5 (some .int) [(0, 10, 13, 19), (0, 10, 17, 13)] :: TT) { frames := 8, cells := 1, slots := 6 * 1, locals := 136 } (va_Pc [.ref (ad 117), .int x, .int y, .ref (ad 145)] (fun U9 => U9.heap.size = sz ∧ wB D cs ad (fA ad sz) M U9 ∧ xX (fA ad sz) U9 U9.heap)) (va_Qi (fun r M2 => r = nI 1 ∧ (fun M2 => M2 = M) M2) (wB D cs ad (fA ad sz)) (fA ad sz)) 1 (6 * 1) (fA ad sz) := by
  refine st_W (by decide) (Nat.le_of_ble_eq_true rfl) (fun κ C hN hT E => ?_)
  refine r_lv (lv2 := [(0, .ref (ad 117)), (1, .int x), (2, .int y), (3, .ref (ad 145))]) [0, 1, 2, 3] rfl ?_
  refine r_aload_n C dL_weigh_0 rfl 3 rfl ?_
  refine r_iconst C (nI 0) dL_weigh_1 (by decide) ?_
  refine r_aload_n C dL_weigh_2 rfl 0 rfl ?_
  refine r_iload_n C dL_weigh_3 rfl 1 rfl ?_
  refine r_iload_n C dL_weigh_4 rfl 2 rfl ?_
  refine r_catch_i (nA := 2) C hN hT (Nat.le_of_ble_eq_true rfl) [.int x, .int y] (c_X7_weighX l D cs ad hfl M z n d hg hn8 hn1 x y hbad) (tt_V ml_L_21 im_X7_weigh se_X7_weigh in_X7 co_X7_weigh) ⟨rfl, rfl⟩ ⟨rfl, by decide, by decide, by decide⟩ ⟨Nat.le_of_ble_eq_true rfl, Nat.le_of_ble_eq_true rfl⟩ (by decide) rfl rfl rfl rfl rfl (Nat.le_of_ble_eq_true rfl) dL_weigh_5 [] ⟨0, 10, 13, 19⟩ [⟨0, 10, 17, 13⟩] rfl (fun _ hz => absurd hz List.not_mem_nil) (by decide) (by decide) cl_L_19 (by decide +kernel) (fun q1 Mu1 qu1 => ?_)
  refine r_astore C [(4, .ref q1), (0, .ref (ad 117)), (1, .int x), (2, .int y), (3, .ref (ad 145))] dL_weigh_13 (by decide) rfl ?_
  refine r_iconst C (nI 1) dL_weigh_15 (by decide) ?_
  exact E 1 _ _ _ _ (Nat.le_of_ble_eq_true rfl) dL_weigh_16 (⟨rfl, qu1⟩)
set_option maxRecDepth 100000 in
set_option maxHeartbeats 4000000 in
theorem w_weighY (l : Launch) (D : va_G) (cs : Nat → ClassId) (ad : Nat → Nat) (hfl : l.stackTraces = false) (M : Mm) (z : Nat → Int32) (n d : Nat) (hg : gv M 0 (gH 0) z n d) (hn8 : n ≤ 8) (v : Nat) (hv : v < n) (y : Int32) (hbad : wit y (nI 0) (nI 9) = false) : ∀ sz : Nat, Met l yL_weigh (.codeWith yL_weigh cL_weigh 5 (some .int) [(0, 10, 13, 19), (0, 10, 17, 13)] :: TT) { frames := 7, cells := 1, slots := 6 * 1, locals := 115 } (va_Pc [.ref (ad 117), .int (nI v), .int y, .ref (ad 145)] (fun U9 => U9.heap.size = sz ∧ wB D cs ad (fA ad sz) M U9 ∧ xX (fA ad sz) U9 U9.heap)) (va_Qi (fun r M2 => r = nI 2 ∧ (fun M2 => M2 = M) M2) (wB D cs ad (fA ad sz)) (fA ad sz)) 1 (6 * 1) (fA ad sz) := by
  refine st_W (by decide) (Nat.le_of_ble_eq_true rfl) (fun κ C hN hT E => ?_)
  refine r_lv (lv2 := [(0, .ref (ad 117)), (1, .int (nI v)), (2, .int y), (3, .ref (ad 145))]) [0, 1, 2, 3] rfl ?_
  refine r_aload_n C dL_weigh_0 rfl 3 rfl ?_
  refine r_iconst C (nI 0) dL_weigh_1 (by decide) ?_
  refine r_aload_n C dL_weigh_2 rfl 0 rfl ?_
  refine r_iload_n C dL_weigh_3 rfl 1 rfl ?_
  refine r_iload_n C dL_weigh_4 rfl 2 rfl ?_
  refine r_catch_i (nA := 2) C hN hT (Nat.le_of_ble_eq_true rfl) [.int (nI v), .int y] (c_X7_weighY l D cs ad hfl M z n d hg hn8 v hv y hbad) (tt_V ml_L_21 im_X7_weigh se_X7_weigh in_X7 co_X7_weigh) ⟨rfl, rfl⟩ ⟨rfl, by decide, by decide, by decide⟩ ⟨Nat.le_of_ble_eq_true rfl, Nat.le_of_ble_eq_true rfl⟩ (by decide) rfl rfl rfl rfl rfl (Nat.le_of_ble_eq_true rfl) dL_weigh_5 [⟨0, 10, 13, 19⟩] ⟨0, 10, 17, 13⟩ [] rfl (fun z hz => by rcases List.mem_singleton.mp hz with rfl; exact ⟨by decide, _, cl_L_19, by decide +kernel⟩) (by decide) (by decide) cl_L_13 (by decide +kernel) (fun q1 Mu1 qu1 => ?_)
  refine r_astore C [(4, .ref q1), (0, .ref (ad 117)), (1, .int (nI v)), (2, .int y), (3, .ref (ad 145))] dL_weigh_17 (by decide) rfl ?_
  refine r_iconst C (nI 2) dL_weigh_19 (by decide) ?_
  exact E 1 _ _ _ _ (Nat.le_of_ble_eq_true rfl) dL_weigh_20 (⟨rfl, qu1⟩)
set_option maxRecDepth 100000 in
set_option maxHeartbeats 4000000 in
theorem w_remove (l : Launch) (D : va_G) (cs : Nat → ClassId) (ad : Nat → Nat) (M : Mm) (z : Nat → Int32) (n d : Nat) (hg : gv M 0 (gH 0) z n d) (hn8 : n ≤ 8) (lt : Nat) (hlt : M.1 120 2 = nI lt) (hlt6 : lt < 6) (s9 : Nat) (hs : M.1 120 3 = nI s9) (hs6 : s9 ≤ 6) (hm : gm z n) (v : Nat) (hv : v < n) (hn2 : 2 ≤ n) : ∀ sz : Nat, Met l yL_remove (.codeWith yL_remove cL_remove 4 (some .int) [(0, 9, 12, 19), (0, 9, 15, 28)] :: TT) { frames := 5, cells := 0, slots := 6 * 0, locals := 145 } (va_Pc [.ref (ad 117), .int (nI v), .ref (ad 145)] (fun U9 => U9.heap.size = sz ∧ wB D cs ad (fA ad sz) M U9 ∧ xX (fA ad sz) U9 U9.heap)) (va_Qi (fun r M2 => r = nI 0 ∧ ∃ v9 M9, (fun r M2 => r = nI (n - 1) ∧ chP M M2 z n d lt s9 (rmR z n v) (n - 1) d) v9 M9 ∧ M2 = mJ M9 145 0 (v9.toInt64)) (wB D cs ad (fA ad sz)) (fA ad sz)) 0 (6 * 0) (fA ad sz) := by
  refine st_W (by decide) (Nat.le_of_ble_eq_true rfl) (fun κ C hN hT E => ?_)
  refine r_lv (lv2 := [(0, .ref (ad 117)), (1, .int (nI v)), (2, .ref (ad 145))]) [0, 1, 2] rfl ?_
  refine r_aload_n C dL_remove_0 rfl 2 rfl ?_
  refine r_iconst C (nI 0) dL_remove_1 (by decide) ?_
  refine r_aload_n C dL_remove_2 rfl 0 rfl ?_
  refine r_iload_n C dL_remove_3 rfl 1 rfl ?_
  refine r_ncallV_i (nA := 1) C hN (Nat.le_of_ble_eq_true rfl) [.int (nI v)] (c_X7_remove l D cs ad M z n d hg hn8 lt hlt hlt6 s9 hs hs6 hm v hv hn2) (tt_V ml_L_24 im_X7_remove se_X7_remove in_X7 co_X7_remove) ⟨rfl, rfl⟩ ⟨rfl, by decide, by decide, by decide⟩ ⟨Nat.le_of_ble_eq_true rfl, Nat.le_of_ble_eq_true rfl⟩ (by decide) rfl rfl rfl rfl rfl (Nat.le_of_ble_eq_true rfl) dL_remove_4 (fun r1 Mu1 qu1 => ?_)
  refine r_i2l C dL_remove_7 ?_
  refine r_last C (id := 145) (n := 1) (a := 0) (by decide) (fun _ => rfl) (by decide) (by decide) dL_remove_8 ?_
  refine r_goto C 18 dL_remove_9 (by decide) ?_
  refine r_iconst C (nI 0) dL_remove_18 (by decide) ?_
  exact E 0 _ _ _ _ (Nat.le_of_ble_eq_true rfl) dL_remove_19 (⟨rfl, r1, Mu1, qu1, rfl⟩)
set_option maxRecDepth 100000 in
set_option maxHeartbeats 4000000 in
theorem w_removeX (l : Launch) (D : va_G) (cs : Nat → ClassId) (ad : Nat → Nat) (hfl : l.stackTraces = false) (M : Mm) (z : Nat → Int32) (n d : Nat) (hg : gv M 0 (gH 0) z n d) (hn8 : n ≤ 8) (hn1 : 1 ≤ n) (x : Int32) (hbad : wit x (nI 0) (nI n - nI 1) = false) : ∀ sz : Nat, Met l yL_remove (.codeWith yL_remove cL_remove 4 (some .int) [(0, 9, 12, 19), (0, 9, 15, 28)] :: TT) { frames := 8, cells := 1, slots := 6 * 1, locals := 134 } (va_Pc [.ref (ad 117), .int x, .ref (ad 145)] (fun U9 => U9.heap.size = sz ∧ wB D cs ad (fA ad sz) M U9 ∧ xX (fA ad sz) U9 U9.heap)) (va_Qi (fun r M2 => r = nI 1 ∧ (fun M2 => M2 = M) M2) (wB D cs ad (fA ad sz)) (fA ad sz)) 1 (6 * 1) (fA ad sz) := by
  refine st_W (by decide) (Nat.le_of_ble_eq_true rfl) (fun κ C hN hT E => ?_)
  refine r_lv (lv2 := [(0, .ref (ad 117)), (1, .int x), (2, .ref (ad 145))]) [0, 1, 2] rfl ?_
  refine r_aload_n C dL_remove_0 rfl 2 rfl ?_
  refine r_iconst C (nI 0) dL_remove_1 (by decide) ?_
  refine r_aload_n C dL_remove_2 rfl 0 rfl ?_
  refine r_iload_n C dL_remove_3 rfl 1 rfl ?_
  refine r_catch_i (nA := 1) C hN hT (Nat.le_of_ble_eq_true rfl) [.int x] (c_X7_removeX l D cs ad hfl M z n d hg hn8 hn1 x hbad) (tt_V ml_L_24 im_X7_remove se_X7_remove in_X7 co_X7_remove) ⟨rfl, rfl⟩ ⟨rfl, by decide, by decide, by decide⟩ ⟨Nat.le_of_ble_eq_true rfl, Nat.le_of_ble_eq_true rfl⟩ (by decide) rfl rfl rfl rfl rfl (Nat.le_of_ble_eq_true rfl) dL_remove_4 [] ⟨0, 9, 12, 19⟩ [⟨0, 9, 15, 28⟩] rfl (fun _ hz => absurd hz List.not_mem_nil) (by decide) (by decide) cl_L_19 (by decide +kernel) (fun q1 Mu1 qu1 => ?_)
  refine r_astore_n C [(3, .ref q1), (0, .ref (ad 117)), (1, .int x), (2, .ref (ad 145))] dL_remove_12 rfl (by decide) rfl ?_
  refine r_iconst C (nI 1) dL_remove_13 (by decide) ?_
  exact E 1 _ _ _ _ (Nat.le_of_ble_eq_true rfl) dL_remove_14 (⟨rfl, qu1⟩)
set_option maxRecDepth 100000 in
set_option maxHeartbeats 4000000 in
theorem w_removeY (l : Launch) (D : va_G) (cs : Nat → ClassId) (ad : Nat → Nat) (hfl : l.stackTraces = false) (M : Mm) (z : Nat → Int32) (n d : Nat) (hg : gv M 0 (gH 0) z n d) (hn8 : n ≤ 8) (h1 : n = 1) : ∀ sz : Nat, Met l yL_remove (.codeWith yL_remove cL_remove 4 (some .int) [(0, 9, 12, 19), (0, 9, 15, 28)] :: TT) { frames := 7, cells := 1, slots := 6 * 1, locals := 113 } (va_Pc [.ref (ad 117), .int (nI 0), .ref (ad 145)] (fun U9 => U9.heap.size = sz ∧ wB D cs ad (fA ad sz) M U9 ∧ xX (fA ad sz) U9 U9.heap)) (va_Qi (fun r M2 => r = nI 2 ∧ (fun M2 => M2 = M) M2) (wB D cs ad (fA ad sz)) (fA ad sz)) 1 (6 * 1) (fA ad sz) := by
  refine st_W (by decide) (Nat.le_of_ble_eq_true rfl) (fun κ C hN hT E => ?_)
  refine r_lv (lv2 := [(0, .ref (ad 117)), (1, .int (nI 0)), (2, .ref (ad 145))]) [0, 1, 2] rfl ?_
  refine r_aload_n C dL_remove_0 rfl 2 rfl ?_
  refine r_iconst C (nI 0) dL_remove_1 (by decide) ?_
  refine r_aload_n C dL_remove_2 rfl 0 rfl ?_
  refine r_iload_n C dL_remove_3 rfl 1 rfl ?_
  refine r_catch_i (nA := 1) C hN hT (Nat.le_of_ble_eq_true rfl) [.int (nI 0)] (c_X7_removeY l D cs ad hfl M z n d hg hn8 h1) (tt_V ml_L_24 im_X7_remove se_X7_remove in_X7 co_X7_remove) ⟨rfl, rfl⟩ ⟨rfl, by decide, by decide, by decide⟩ ⟨Nat.le_of_ble_eq_true rfl, Nat.le_of_ble_eq_true rfl⟩ (by decide) rfl rfl rfl rfl rfl (Nat.le_of_ble_eq_true rfl) dL_remove_4 [⟨0, 9, 12, 19⟩] ⟨0, 9, 15, 28⟩ [] rfl (fun z hz => by rcases List.mem_singleton.mp hz with rfl; exact ⟨by decide, _, cl_L_19, by decide +kernel⟩) (by decide) (by decide) cl_L_28 (by decide +kernel) (fun q1 Mu1 qu1 => ?_)
  refine r_astore_n C [(3, .ref q1), (0, .ref (ad 117)), (1, .int (nI 0)), (2, .ref (ad 145))] dL_remove_15 rfl (by decide) rfl ?_
  refine r_iconst C (nI 2) dL_remove_16 (by decide) ?_
  exact E 1 _ _ _ _ (Nat.le_of_ble_eq_true rfl) dL_remove_17 (⟨rfl, qu1⟩)
set_option maxRecDepth 100000 in
set_option maxHeartbeats 4000000 in
theorem w_label (l : Launch) (D : va_G) (cs : Nat → ClassId) (ad : Nat → Nat) (M : Mm) (z : Nat → Int32) (n d : Nat) (hg : gv M 0 (gH 0) z n d) (hn8 : n ≤ 8) (lt : Nat) (hlt : M.1 120 2 = nI lt) (hlt6 : lt < 6) (s9 : Nat) (hs : M.1 120 3 = nI s9) (hs6 : s9 ≤ 6) (hd4 : d ≤ 4) (v p : Nat) (w : Int32) (hv : v < n) (hp : p < d) (hw : wit w (-9) (nI 9) = true) : ∀ sz : Nat, Met l yL_label (.codeWith yL_label cL_label 6 (some .int) [(0, 12, 15, 19), (0, 12, 19, 13)] :: TT) { frames := 5, cells := 0, slots := 6 * 0, locals := 148 } (va_Pc [.ref (ad 117), .int (nI v), .int (nI p), .int w, .ref (ad 145)] (fun U9 => U9.heap.size = sz ∧ wB D cs ad (fA ad sz) M U9 ∧ xX (fA ad sz) U9 U9.heap)) (va_Qi (fun r M2 => r = nI 0 ∧ ∃ v9 M9, (fun r M2 => r = z (18 + 4 * v + p) ∧ ∃ M1, svP M M1 z n d lt s9 (M.1 117 9) ∧ M2 = mI M1 (gR 0 v) p w) v9 M9 ∧ M2 = mJ M9 145 0 (v9.toInt64)) (wB D cs ad (fA ad sz)) (fA ad sz)) 0 (6 * 0) (fA ad sz) := by
  refine st_W (by decide) (Nat.le_of_ble_eq_true rfl) (fun κ C hN hT E => ?_)
  refine r_lv (lv2 := [(0, .ref (ad 117)), (1, .int (nI v)), (2, .int (nI p)), (3, .int w), (4, .ref (ad 145))]) [0, 1, 2, 3, 4] rfl ?_
  refine r_aload C dL_label_0 4 rfl ?_
  refine r_iconst C (nI 0) dL_label_2 (by decide) ?_
  refine r_aload_n C dL_label_3 rfl 0 rfl ?_
  refine r_iload_n C dL_label_4 rfl 1 rfl ?_
  refine r_iload_n C dL_label_5 rfl 2 rfl ?_
  refine r_iload_n C dL_label_6 rfl 3 rfl ?_
  refine r_ncallV_i (nA := 3) C hN (Nat.le_of_ble_eq_true rfl) [.int (nI v), .int (nI p), .int w] (c_X7_label l D cs ad M z n d hg hn8 lt hlt hlt6 s9 hs hs6 hd4 v p w hv hp hw) (tt_V ml_L_33 im_X7_label se_X7_label in_X7 co_X7_label) ⟨rfl, rfl⟩ ⟨rfl, by decide, by decide, by decide⟩ ⟨Nat.le_of_ble_eq_true rfl, Nat.le_of_ble_eq_true rfl⟩ (by decide) rfl rfl rfl rfl rfl (Nat.le_of_ble_eq_true rfl) dL_label_7 (fun r1 Mu1 qu1 => ?_)
  refine r_i2l C dL_label_10 ?_
  refine r_last C (id := 145) (n := 1) (a := 0) (by decide) (fun _ => rfl) (by decide) (by decide) dL_label_11 ?_
  refine r_goto C 23 dL_label_12 (by decide) ?_
  refine r_iconst C (nI 0) dL_label_23 (by decide) ?_
  exact E 0 _ _ _ _ (Nat.le_of_ble_eq_true rfl) dL_label_24 (⟨rfl, r1, Mu1, qu1, rfl⟩)
set_option maxRecDepth 100000 in
set_option maxHeartbeats 4000000 in
theorem w_labelX1 (l : Launch) (D : va_G) (cs : Nat → ClassId) (ad : Nat → Nat) (hfl : l.stackTraces = false) (M : Mm) (z : Nat → Int32) (n d : Nat) (hg : gv M 0 (gH 0) z n d) (hn8 : n ≤ 8) (hn1 : 1 ≤ n) (x y w : Int32) (hbad : wit x (nI 0) (nI n - nI 1) = false) : ∀ sz : Nat, Met l yL_label (.codeWith yL_label cL_label 6 (some .int) [(0, 12, 15, 19), (0, 12, 19, 13)] :: TT) { frames := 8, cells := 1, slots := 6 * 1, locals := 137 } (va_Pc [.ref (ad 117), .int x, .int y, .int w, .ref (ad 145)] (fun U9 => U9.heap.size = sz ∧ wB D cs ad (fA ad sz) M U9 ∧ xX (fA ad sz) U9 U9.heap)) (va_Qi (fun r M2 => r = nI 1 ∧ (fun M2 => M2 = M) M2) (wB D cs ad (fA ad sz)) (fA ad sz)) 1 (6 * 1) (fA ad sz) := by
  refine st_W (by decide) (Nat.le_of_ble_eq_true rfl) (fun κ C hN hT E => ?_)
  refine r_lv (lv2 := [(0, .ref (ad 117)), (1, .int x), (2, .int y), (3, .int w), (4, .ref (ad 145))]) [0, 1, 2, 3, 4] rfl ?_
  refine r_aload C dL_label_0 4 rfl ?_
  refine r_iconst C (nI 0) dL_label_2 (by decide) ?_
  refine r_aload_n C dL_label_3 rfl 0 rfl ?_
  refine r_iload_n C dL_label_4 rfl 1 rfl ?_
  refine r_iload_n C dL_label_5 rfl 2 rfl ?_
  refine r_iload_n C dL_label_6 rfl 3 rfl ?_
  refine r_catch_i (nA := 3) C hN hT (Nat.le_of_ble_eq_true rfl) [.int x, .int y, .int w] (c_X7_labelX1 l D cs ad hfl M z n d hg hn8 hn1 x y w hbad) (tt_V ml_L_33 im_X7_label se_X7_label in_X7 co_X7_label) ⟨rfl, rfl⟩ ⟨rfl, by decide, by decide, by decide⟩ ⟨Nat.le_of_ble_eq_true rfl, Nat.le_of_ble_eq_true rfl⟩ (by decide) rfl rfl rfl rfl rfl (Nat.le_of_ble_eq_true rfl) dL_label_7 [] ⟨0, 12, 15, 19⟩ [⟨0, 12, 19, 13⟩] rfl (fun _ hz => absurd hz List.not_mem_nil) (by decide) (by decide) cl_L_19 (by decide +kernel) (fun q1 Mu1 qu1 => ?_)
  refine r_astore C [(5, .ref q1), (0, .ref (ad 117)), (1, .int x), (2, .int y), (3, .int w), (4, .ref (ad 145))] dL_label_15 (by decide) rfl ?_
  refine r_iconst C (nI 1) dL_label_17 (by decide) ?_
  exact E 1 _ _ _ _ (Nat.le_of_ble_eq_true rfl) dL_label_18 (⟨rfl, qu1⟩)
set_option maxRecDepth 100000 in
set_option maxHeartbeats 4000000 in
theorem w_labelX2 (l : Launch) (D : va_G) (cs : Nat → ClassId) (ad : Nat → Nat) (hfl : l.stackTraces = false) (M : Mm) (z : Nat → Int32) (n d : Nat) (hg : gv M 0 (gH 0) z n d) (hn8 : n ≤ 8) (hd4 : d ≤ 4) (hd1 : 1 ≤ d) (v : Nat) (hv : v < n) (x w : Int32) (hbad : wit x (nI 0) (nI d - nI 1) = false) : ∀ sz : Nat, Met l yL_label (.codeWith yL_label cL_label 6 (some .int) [(0, 12, 15, 19), (0, 12, 19, 13)] :: TT) { frames := 8, cells := 1, slots := 6 * 1, locals := 137 } (va_Pc [.ref (ad 117), .int (nI v), .int x, .int w, .ref (ad 145)] (fun U9 => U9.heap.size = sz ∧ wB D cs ad (fA ad sz) M U9 ∧ xX (fA ad sz) U9 U9.heap)) (va_Qi (fun r M2 => r = nI 1 ∧ (fun M2 => M2 = M) M2) (wB D cs ad (fA ad sz)) (fA ad sz)) 1 (6 * 1) (fA ad sz) := by
  refine st_W (by decide) (Nat.le_of_ble_eq_true rfl) (fun κ C hN hT E => ?_)
  refine r_lv (lv2 := [(0, .ref (ad 117)), (1, .int (nI v)), (2, .int x), (3, .int w), (4, .ref (ad 145))]) [0, 1, 2, 3, 4] rfl ?_
  refine r_aload C dL_label_0 4 rfl ?_
  refine r_iconst C (nI 0) dL_label_2 (by decide) ?_
  refine r_aload_n C dL_label_3 rfl 0 rfl ?_
  refine r_iload_n C dL_label_4 rfl 1 rfl ?_
  refine r_iload_n C dL_label_5 rfl 2 rfl ?_
  refine r_iload_n C dL_label_6 rfl 3 rfl ?_
  refine r_catch_i (nA := 3) C hN hT (Nat.le_of_ble_eq_true rfl) [.int (nI v), .int x, .int w] (c_X7_labelX2 l D cs ad hfl M z n d hg hn8 hd4 hd1 v hv x w hbad) (tt_V ml_L_33 im_X7_label se_X7_label in_X7 co_X7_label) ⟨rfl, rfl⟩ ⟨rfl, by decide, by decide, by decide⟩ ⟨Nat.le_of_ble_eq_true rfl, Nat.le_of_ble_eq_true rfl⟩ (by decide) rfl rfl rfl rfl rfl (Nat.le_of_ble_eq_true rfl) dL_label_7 [] ⟨0, 12, 15, 19⟩ [⟨0, 12, 19, 13⟩] rfl (fun _ hz => absurd hz List.not_mem_nil) (by decide) (by decide) cl_L_19 (by decide +kernel) (fun q1 Mu1 qu1 => ?_)
  refine r_astore C [(5, .ref q1), (0, .ref (ad 117)), (1, .int (nI v)), (2, .int x), (3, .int w), (4, .ref (ad 145))] dL_label_15 (by decide) rfl ?_
  refine r_iconst C (nI 1) dL_label_17 (by decide) ?_
  exact E 1 _ _ _ _ (Nat.le_of_ble_eq_true rfl) dL_label_18 (⟨rfl, qu1⟩)
set_option maxRecDepth 100000 in
set_option maxHeartbeats 4000000 in
theorem w_labelY (l : Launch) (D : va_G) (cs : Nat → ClassId) (ad : Nat → Nat) (hfl : l.stackTraces = false) (M : Mm) (z : Nat → Int32) (n d : Nat) (hg : gv M 0 (gH 0) z n d) (hn8 : n ≤ 8) (hd4 : d ≤ 4) (v p : Nat) (hv : v < n) (hp : p < d) (w : Int32) (hw : wit w (-9) (nI 9) = false) : ∀ sz : Nat, Met l yL_label (.codeWith yL_label cL_label 6 (some .int) [(0, 12, 15, 19), (0, 12, 19, 13)] :: TT) { frames := 8, cells := 1, slots := 6 * 1, locals := 136 } (va_Pc [.ref (ad 117), .int (nI v), .int (nI p), .int w, .ref (ad 145)] (fun U9 => U9.heap.size = sz ∧ wB D cs ad (fA ad sz) M U9 ∧ xX (fA ad sz) U9 U9.heap)) (va_Qi (fun r M2 => r = nI 2 ∧ (fun M2 => M2 = M) M2) (wB D cs ad (fA ad sz)) (fA ad sz)) 1 (6 * 1) (fA ad sz) := by
  refine st_W (by decide) (Nat.le_of_ble_eq_true rfl) (fun κ C hN hT E => ?_)
  refine r_lv (lv2 := [(0, .ref (ad 117)), (1, .int (nI v)), (2, .int (nI p)), (3, .int w), (4, .ref (ad 145))]) [0, 1, 2, 3, 4] rfl ?_
  refine r_aload C dL_label_0 4 rfl ?_
  refine r_iconst C (nI 0) dL_label_2 (by decide) ?_
  refine r_aload_n C dL_label_3 rfl 0 rfl ?_
  refine r_iload_n C dL_label_4 rfl 1 rfl ?_
  refine r_iload_n C dL_label_5 rfl 2 rfl ?_
  refine r_iload_n C dL_label_6 rfl 3 rfl ?_
  refine r_catch_i (nA := 3) C hN hT (Nat.le_of_ble_eq_true rfl) [.int (nI v), .int (nI p), .int w] (c_X7_labelY l D cs ad hfl M z n d hg hn8 hd4 v p hv hp w hw) (tt_V ml_L_33 im_X7_label se_X7_label in_X7 co_X7_label) ⟨rfl, rfl⟩ ⟨rfl, by decide, by decide, by decide⟩ ⟨Nat.le_of_ble_eq_true rfl, Nat.le_of_ble_eq_true rfl⟩ (by decide) rfl rfl rfl rfl rfl (Nat.le_of_ble_eq_true rfl) dL_label_7 [⟨0, 12, 15, 19⟩] ⟨0, 12, 19, 13⟩ [] rfl (fun z hz => by rcases List.mem_singleton.mp hz with rfl; exact ⟨by decide, _, cl_L_19, by decide +kernel⟩) (by decide) (by decide) cl_L_13 (by decide +kernel) (fun q1 Mu1 qu1 => ?_)
  refine r_astore C [(5, .ref q1), (0, .ref (ad 117)), (1, .int (nI v)), (2, .int (nI p)), (3, .int w), (4, .ref (ad 145))] dL_label_19 (by decide) rfl ?_
  refine r_iconst C (nI 2) dL_label_21 (by decide) ?_
  exact E 1 _ _ _ _ (Nat.le_of_ble_eq_true rfl) dL_label_22 (⟨rfl, qu1⟩)
set_option maxRecDepth 100000 in
set_option maxHeartbeats 4000000 in
theorem w_hold (l : Launch) (D : va_G) (cs : Nat → ClassId) (ad : Nat → Nat) (M : Mm) (z : Nat → Int32) (n d : Nat) (hg : gv M 0 (gH 0) z n d) (hn8 : n ≤ 8) (lt : Nat) (hlt : M.1 120 2 = nI lt) (hlt6 : lt < 6) (s9 : Nat) (hs : M.1 120 3 = nI s9) (hs6 : s9 ≤ 6) (hd4 : d ≤ 4) (p : Nat) (w : Int32) (hp : p < d) (hw : wit w (-9) (nI 9) = true) : ∀ sz : Nat, Met l yL_hold (.codeWith yL_hold cL_hold 5 (some .int) [(0, 10, 13, 19), (0, 10, 17, 13)] :: TT) { frames := 5, cells := 0, slots := 6 * 0, locals := 147 } (va_Pc [.ref (ad 117), .int (nI p), .int w, .ref (ad 145)] (fun U9 => U9.heap.size = sz ∧ wB D cs ad (fA ad sz) M U9 ∧ xX (fA ad sz) U9 U9.heap)) (va_Qi (fun r M2 => r = nI 0 ∧ ∃ v9 M9, (fun r M2 => r = z (50 + p) ∧ ∃ M1, svP M M1 z n d lt s9 (M.1 117 9) ∧ M2 = mI M1 (gH 0) p w) v9 M9 ∧ M2 = mJ M9 145 0 (v9.toInt64)) (wB D cs ad (fA ad sz)) (fA ad sz)) 0 (6 * 0) (fA ad sz) := by
  refine st_W (by decide) (Nat.le_of_ble_eq_true rfl) (fun κ C hN hT E => ?_)
  refine r_lv (lv2 := [(0, .ref (ad 117)), (1, .int (nI p)), (2, .int w), (3, .ref (ad 145))]) [0, 1, 2, 3] rfl ?_
  refine r_aload_n C dL_hold_0 rfl 3 rfl ?_
  refine r_iconst C (nI 0) dL_hold_1 (by decide) ?_
  refine r_aload_n C dL_hold_2 rfl 0 rfl ?_
  refine r_iload_n C dL_hold_3 rfl 1 rfl ?_
  refine r_iload_n C dL_hold_4 rfl 2 rfl ?_
  refine r_ncallV_i (nA := 2) C hN (Nat.le_of_ble_eq_true rfl) [.int (nI p), .int w] (c_X7_hold l D cs ad M z n d hg hn8 lt hlt hlt6 s9 hs hs6 hd4 p w hp hw) (tt_V ml_L_37 im_X7_hold se_X7_hold in_X7 co_X7_hold) ⟨rfl, rfl⟩ ⟨rfl, by decide, by decide, by decide⟩ ⟨Nat.le_of_ble_eq_true rfl, Nat.le_of_ble_eq_true rfl⟩ (by decide) rfl rfl rfl rfl rfl (Nat.le_of_ble_eq_true rfl) dL_hold_5 (fun r1 Mu1 qu1 => ?_)
  refine r_i2l C dL_hold_8 ?_
  refine r_last C (id := 145) (n := 1) (a := 0) (by decide) (fun _ => rfl) (by decide) (by decide) dL_hold_9 ?_
  refine r_goto C 21 dL_hold_10 (by decide) ?_
  refine r_iconst C (nI 0) dL_hold_21 (by decide) ?_
  exact E 0 _ _ _ _ (Nat.le_of_ble_eq_true rfl) dL_hold_22 (⟨rfl, r1, Mu1, qu1, rfl⟩)
set_option maxRecDepth 100000 in
set_option maxHeartbeats 4000000 in
theorem w_holdX (l : Launch) (D : va_G) (cs : Nat → ClassId) (ad : Nat → Nat) (hfl : l.stackTraces = false) (M : Mm) (z : Nat → Int32) (n d : Nat) (hg : gv M 0 (gH 0) z n d) (hn8 : n ≤ 8) (hd4 : d ≤ 4) (hd1 : 1 ≤ d) (x w : Int32) (hbad : wit x (nI 0) (nI d - nI 1) = false) : ∀ sz : Nat, Met l yL_hold (.codeWith yL_hold cL_hold 5 (some .int) [(0, 10, 13, 19), (0, 10, 17, 13)] :: TT) { frames := 8, cells := 1, slots := 6 * 1, locals := 136 } (va_Pc [.ref (ad 117), .int x, .int w, .ref (ad 145)] (fun U9 => U9.heap.size = sz ∧ wB D cs ad (fA ad sz) M U9 ∧ xX (fA ad sz) U9 U9.heap)) (va_Qi (fun r M2 => r = nI 1 ∧ (fun M2 => M2 = M) M2) (wB D cs ad (fA ad sz)) (fA ad sz)) 1 (6 * 1) (fA ad sz) := by
  refine st_W (by decide) (Nat.le_of_ble_eq_true rfl) (fun κ C hN hT E => ?_)
  refine r_lv (lv2 := [(0, .ref (ad 117)), (1, .int x), (2, .int w), (3, .ref (ad 145))]) [0, 1, 2, 3] rfl ?_
  refine r_aload_n C dL_hold_0 rfl 3 rfl ?_
  refine r_iconst C (nI 0) dL_hold_1 (by decide) ?_
  refine r_aload_n C dL_hold_2 rfl 0 rfl ?_
  refine r_iload_n C dL_hold_3 rfl 1 rfl ?_
  refine r_iload_n C dL_hold_4 rfl 2 rfl ?_
  refine r_catch_i (nA := 2) C hN hT (Nat.le_of_ble_eq_true rfl) [.int x, .int w] (c_X7_holdX l D cs ad hfl M z n d hg hn8 hd4 hd1 x w hbad) (tt_V ml_L_37 im_X7_hold se_X7_hold in_X7 co_X7_hold) ⟨rfl, rfl⟩ ⟨rfl, by decide, by decide, by decide⟩ ⟨Nat.le_of_ble_eq_true rfl, Nat.le_of_ble_eq_true rfl⟩ (by decide) rfl rfl rfl rfl rfl (Nat.le_of_ble_eq_true rfl) dL_hold_5 [] ⟨0, 10, 13, 19⟩ [⟨0, 10, 17, 13⟩] rfl (fun _ hz => absurd hz List.not_mem_nil) (by decide) (by decide) cl_L_19 (by decide +kernel) (fun q1 Mu1 qu1 => ?_)
  refine r_astore C [(4, .ref q1), (0, .ref (ad 117)), (1, .int x), (2, .int w), (3, .ref (ad 145))] dL_hold_13 (by decide) rfl ?_
  refine r_iconst C (nI 1) dL_hold_15 (by decide) ?_
  exact E 1 _ _ _ _ (Nat.le_of_ble_eq_true rfl) dL_hold_16 (⟨rfl, qu1⟩)
set_option maxRecDepth 100000 in
set_option maxHeartbeats 4000000 in
theorem w_holdY (l : Launch) (D : va_G) (cs : Nat → ClassId) (ad : Nat → Nat) (hfl : l.stackTraces = false) (M : Mm) (z : Nat → Int32) (n d : Nat) (hg : gv M 0 (gH 0) z n d) (hn8 : n ≤ 8) (hd4 : d ≤ 4) (p : Nat) (hp : p < d) (w : Int32) (hw : wit w (-9) (nI 9) = false) : ∀ sz : Nat, Met l yL_hold (.codeWith yL_hold cL_hold 5 (some .int) [(0, 10, 13, 19), (0, 10, 17, 13)] :: TT) { frames := 8, cells := 1, slots := 6 * 1, locals := 135 } (va_Pc [.ref (ad 117), .int (nI p), .int w, .ref (ad 145)] (fun U9 => U9.heap.size = sz ∧ wB D cs ad (fA ad sz) M U9 ∧ xX (fA ad sz) U9 U9.heap)) (va_Qi (fun r M2 => r = nI 2 ∧ (fun M2 => M2 = M) M2) (wB D cs ad (fA ad sz)) (fA ad sz)) 1 (6 * 1) (fA ad sz) := by
  refine st_W (by decide) (Nat.le_of_ble_eq_true rfl) (fun κ C hN hT E => ?_)
  refine r_lv (lv2 := [(0, .ref (ad 117)), (1, .int (nI p)), (2, .int w), (3, .ref (ad 145))]) [0, 1, 2, 3] rfl ?_
  refine r_aload_n C dL_hold_0 rfl 3 rfl ?_
  refine r_iconst C (nI 0) dL_hold_1 (by decide) ?_
  refine r_aload_n C dL_hold_2 rfl 0 rfl ?_
  refine r_iload_n C dL_hold_3 rfl 1 rfl ?_
  refine r_iload_n C dL_hold_4 rfl 2 rfl ?_
  refine r_catch_i (nA := 2) C hN hT (Nat.le_of_ble_eq_true rfl) [.int (nI p), .int w] (c_X7_holdY l D cs ad hfl M z n d hg hn8 hd4 p hp w hw) (tt_V ml_L_37 im_X7_hold se_X7_hold in_X7 co_X7_hold) ⟨rfl, rfl⟩ ⟨rfl, by decide, by decide, by decide⟩ ⟨Nat.le_of_ble_eq_true rfl, Nat.le_of_ble_eq_true rfl⟩ (by decide) rfl rfl rfl rfl rfl (Nat.le_of_ble_eq_true rfl) dL_hold_5 [⟨0, 10, 13, 19⟩] ⟨0, 10, 17, 13⟩ [] rfl (fun z hz => by rcases List.mem_singleton.mp hz with rfl; exact ⟨by decide, _, cl_L_19, by decide +kernel⟩) (by decide) (by decide) cl_L_13 (by decide +kernel) (fun q1 Mu1 qu1 => ?_)
  refine r_astore C [(4, .ref q1), (0, .ref (ad 117)), (1, .int (nI p)), (2, .int w), (3, .ref (ad 145))] dL_hold_17 (by decide) rfl ?_
  refine r_iconst C (nI 2) dL_hold_19 (by decide) ?_
  exact E 1 _ _ _ _ (Nat.le_of_ble_eq_true rfl) dL_hold_20 (⟨rfl, qu1⟩)
set_option maxRecDepth 100000 in
set_option maxHeartbeats 4000000 in
theorem w_labelByColors (l : Launch) (D : va_G) (cs : Nat → ClassId) (ad : Nat → Nat) (M : Mm) (z : Nat → Int32) (n d : Nat) (hg : gv M 0 (gH 0) z n d) (hn8 : n ≤ 8) (lt : Nat) (hlt : M.1 120 2 = nI lt) (hlt6 : lt < 6) (s9 : Nat) (hs : M.1 120 3 = nI s9) (hs6 : s9 ≤ 6) (hm : gm z n) (hsy : gs z n) (hn1 : 1 ≤ n) (hd4 : d ≤ 4) (hcd : cnK z n ≤ d) : ∀ sz : Nat, Met l yL_labelByColors (.codeWith yL_labelByColors cL_labelByColors 3 (some .int) [(0, 8, 11, 28)] :: TT) { frames := 42, cells := 0, slots := 6 * 0, locals := 1042 } (va_Pc [.ref (ad 117), .ref (ad 145)] (fun U9 => U9.heap.size = sz ∧ wB D cs ad (fA ad sz) M U9 ∧ xX (fA ad sz) U9 U9.heap)) (va_Qi (fun r M2 => r = nI 0 ∧ ∃ v9 M9, (fun r M2 => r = nI (cnK z n) ∧ ∃ M1 M3, fnP z n M M1 ∧ svP M1 M3 z n d lt s9 (M1.1 117 9) ∧ oG 0 M3 M2 ∧ gv M2 0 (gH 0) (rsK (lcT z (crs z n) (4 * n)) (lcH (cnK z n)) 4) n d) v9 M9 ∧ M2 = mJ M9 145 0 (v9.toInt64)) (wB D cs ad (fA ad sz)) (fA ad sz)) 0 (6 * 0) (fA ad sz) := by
  refine st_W (by decide) (Nat.le_of_ble_eq_true rfl) (fun κ C hN hT E => ?_)
  refine r_lv (lv2 := [(0, .ref (ad 117)), (1, .ref (ad 145))]) [0, 1] rfl ?_
  refine r_aload_n C dL_labelByColors_0 rfl 1 rfl ?_
  refine r_iconst C (nI 0) dL_labelByColors_1 (by decide) ?_
  refine r_aload_n C dL_labelByColors_2 rfl 0 rfl ?_
  refine r_ncallV_i (nA := 0) C hN (Nat.le_of_ble_eq_true rfl) [] (c_X7_labelByColors l D cs ad M z n d hg hn8 lt hlt hlt6 s9 hs hs6 hm hsy hn1 hd4 hcd) (tt_V ml_L_40 im_X7_labelByColors se_X7_labelByColors in_X7 co_X7_labelByColors) ⟨rfl, rfl⟩ ⟨rfl, by decide, by decide, by decide⟩ ⟨Nat.le_of_ble_eq_true rfl, Nat.le_of_ble_eq_true rfl⟩ (by decide) rfl rfl rfl rfl rfl (Nat.le_of_ble_eq_true rfl) dL_labelByColors_3 (fun r1 Mu1 qu1 => ?_)
  refine r_i2l C dL_labelByColors_6 ?_
  refine r_last C (id := 145) (n := 1) (a := 0) (by decide) (fun _ => rfl) (by decide) (by decide) dL_labelByColors_7 ?_
  refine r_goto C 14 dL_labelByColors_8 (by decide) ?_
  refine r_iconst C (nI 0) dL_labelByColors_14 (by decide) ?_
  exact E 0 _ _ _ _ (Nat.le_of_ble_eq_true rfl) dL_labelByColors_15 (⟨rfl, r1, Mu1, qu1, rfl⟩)
set_option maxRecDepth 100000 in
set_option maxHeartbeats 4000000 in
theorem w_labelByColorsX (l : Launch) (D : va_G) (cs : Nat → ClassId) (ad : Nat → Nat) (hfl : l.stackTraces = false) (M : Mm) (z : Nat → Int32) (n d : Nat) (hg : gv M 0 (gH 0) z n d) (hn8 : n ≤ 8) (hm : gm z n) (hsy : gs z n) (hn1 : 1 ≤ n) (hd4 : d ≤ 4) (hcl : cnK z n ≤ 100) (hcd : ¬ cnK z n ≤ d) : ∀ sz : Nat, Met l yL_labelByColors (.codeWith yL_labelByColors cL_labelByColors 3 (some .int) [(0, 8, 11, 28)] :: TT) { frames := 42, cells := 1, slots := 6 * 1, locals := 1042 } (va_Pc [.ref (ad 117), .ref (ad 145)] (fun U9 => U9.heap.size = sz ∧ wB D cs ad (fA ad sz) M U9 ∧ xX (fA ad sz) U9 U9.heap)) (va_Qi (fun r M2 => r = nI 1 ∧ (fun M2 => fnP z n M M2) M2) (wB D cs ad (fA ad sz)) (fA ad sz)) 1 (6 * 1) (fA ad sz) := by
  refine st_W (by decide) (Nat.le_of_ble_eq_true rfl) (fun κ C hN hT E => ?_)
  refine r_lv (lv2 := [(0, .ref (ad 117)), (1, .ref (ad 145))]) [0, 1] rfl ?_
  refine r_aload_n C dL_labelByColors_0 rfl 1 rfl ?_
  refine r_iconst C (nI 0) dL_labelByColors_1 (by decide) ?_
  refine r_aload_n C dL_labelByColors_2 rfl 0 rfl ?_
  refine r_catch_i (nA := 0) C hN hT (Nat.le_of_ble_eq_true rfl) [] (c_X7_labelByColorsX l D cs ad hfl M z n d hg hn8 hm hsy hn1 hd4 hcl hcd) (tt_V ml_L_40 im_X7_labelByColors se_X7_labelByColors in_X7 co_X7_labelByColors) ⟨rfl, rfl⟩ ⟨rfl, by decide, by decide, by decide⟩ ⟨Nat.le_of_ble_eq_true rfl, Nat.le_of_ble_eq_true rfl⟩ (by decide) rfl rfl rfl rfl rfl (Nat.le_of_ble_eq_true rfl) dL_labelByColors_3 [] ⟨0, 8, 11, 28⟩ [] rfl (fun _ hz => absurd hz List.not_mem_nil) (by decide) (by decide) cl_L_28 (by decide +kernel) (fun q1 Mu1 qu1 => ?_)
  refine r_astore_n C [(2, .ref q1), (0, .ref (ad 117)), (1, .ref (ad 145))] dL_labelByColors_11 rfl (by decide) rfl ?_
  refine r_iconst C (nI 1) dL_labelByColors_12 (by decide) ?_
  exact E 1 _ _ _ _ (Nat.le_of_ble_eq_true rfl) dL_labelByColors_13 (⟨rfl, qu1⟩)
set_option maxRecDepth 100000 in
set_option maxHeartbeats 4000000 in
theorem w_takeHandle (l : Launch) (D : va_G) (cs : Nat → ClassId) (ad : Nat → Nat) (M : Mm) (z : Nat → Int32) (n d : Nat) (hg : gv M 0 (gH 0) z n d) (hn8 : n ≤ 8) (lt : Nat) (hlt : M.1 120 2 = nI lt) (hlt6 : lt < 6) (s9 : Nat) (hs : M.1 120 3 = nI s9) (hs6 : s9 ≤ 6) (hm : gm z n) (hd4 : d ≤ 4) (size bb : Nat) (hbb : 2 * size + 1 = bb) (hs1 : 1 ≤ size) (hs2 : size ≤ 2) (mk : Nat → Nat) (hk : gk z n mk) (hz0 : ∀ p, d ≤ p → p < 4 → z (50 + p) = nI 0) (wt U : Nat → Nat) (S : Nat → Nat → Nat) (H : Nat → Nat) (hBB : lbHyp z n d bb size wt U S H) (hpB : ∀ c, c < bb ^ d → upR (hnR z d c bb size d) n = -1 → hpos n wt U (H c)) : ∀ sz : Nat, Met l yL_takeHandle (.codeWith yL_takeHandle cL_takeHandle 4 (some .int) [(0, 9, 12, 13)] :: TT) { frames := 6, cells := 0, slots := 6 * 0, locals := 145 } (va_Pc [.ref (ad 117), .int (nI size), .ref (ad 145)] (fun U9 => U9.heap.size = sz ∧ wB D cs ad (fA ad sz) M U9 ∧ xX (fA ad sz) U9 U9.heap)) (va_Qi (fun r M2 => r = nI 0 ∧ ∃ v9 M9, (fun r M2 => ∃ M1 M3, rnA z n d bb size wt U S H M M1 ∧ svP M1 M3 z n d lt s9 (M1.1 117 9) ∧ ((0 < (lbF z n d bb size wt U S H).2.1 ∧ r = nI 1 ∧ M2 = mA M3 (gH 0) (va_cpy (M3.1 131) (M3.1 (gH 0)) 0 0 4)) ∨ (¬ 0 < (lbF z n d bb size wt U S H).2.1 ∧ r = nI 0 ∧ M2 = M3))) v9 M9 ∧ M2 = mJ M9 145 0 (v9.toInt64)) (wB D cs ad (fA ad sz)) (fA ad sz)) 0 (6 * 0) (fA ad sz) := by
  refine st_W (by decide) (Nat.le_of_ble_eq_true rfl) (fun κ C hN hT E => ?_)
  refine r_lv (lv2 := [(0, .ref (ad 117)), (1, .int (nI size)), (2, .ref (ad 145))]) [0, 1, 2] rfl ?_
  refine r_aload_n C dL_takeHandle_0 rfl 2 rfl ?_
  refine r_iconst C (nI 0) dL_takeHandle_1 (by decide) ?_
  refine r_aload_n C dL_takeHandle_2 rfl 0 rfl ?_
  refine r_iload_n C dL_takeHandle_3 rfl 1 rfl ?_
  refine r_ncallV_i (nA := 1) C hN (Nat.le_of_ble_eq_true rfl) [.int (nI size)] (c_X7_takeHandle l D cs ad M z n d hg hn8 lt hlt hlt6 s9 hs hs6 hm hd4 size bb hbb hs1 hs2 mk hk hz0 wt U S H hBB hpB) (tt_V ml_L_44 im_X7_takeHandle se_X7_takeHandle in_X7 co_X7_takeHandle) ⟨rfl, rfl⟩ ⟨rfl, by decide, by decide, by decide⟩ ⟨Nat.le_of_ble_eq_true rfl, Nat.le_of_ble_eq_true rfl⟩ (by decide) rfl rfl rfl rfl rfl (Nat.le_of_ble_eq_true rfl) dL_takeHandle_4 (fun r1 Mu1 qu1 => ?_)
  refine r_i2l C dL_takeHandle_7 ?_
  refine r_last C (id := 145) (n := 1) (a := 0) (by decide) (fun _ => rfl) (by decide) (by decide) dL_takeHandle_8 ?_
  refine r_goto C 15 dL_takeHandle_9 (by decide) ?_
  refine r_iconst C (nI 0) dL_takeHandle_15 (by decide) ?_
  exact E 0 _ _ _ _ (Nat.le_of_ble_eq_true rfl) dL_takeHandle_16 (⟨rfl, r1, Mu1, qu1, rfl⟩)
set_option maxRecDepth 100000 in
set_option maxHeartbeats 4000000 in
theorem w_takeHandleX (l : Launch) (D : va_G) (cs : Nat → ClassId) (ad : Nat → Nat) (hfl : l.stackTraces = false) (M : Mm) (x : Int32) (hbad : wit x (nI 1) (nI 2) = false) : ∀ sz : Nat, Met l yL_takeHandle (.codeWith yL_takeHandle cL_takeHandle 4 (some .int) [(0, 9, 12, 13)] :: TT) { frames := 8, cells := 1, slots := 6 * 1, locals := 133 } (va_Pc [.ref (ad 117), .int x, .ref (ad 145)] (fun U9 => U9.heap.size = sz ∧ wB D cs ad (fA ad sz) M U9 ∧ xX (fA ad sz) U9 U9.heap)) (va_Qi (fun r M2 => r = nI 1 ∧ (fun M2 => M2 = M) M2) (wB D cs ad (fA ad sz)) (fA ad sz)) 1 (6 * 1) (fA ad sz) := by
  refine st_W (by decide) (Nat.le_of_ble_eq_true rfl) (fun κ C hN hT E => ?_)
  refine r_lv (lv2 := [(0, .ref (ad 117)), (1, .int x), (2, .ref (ad 145))]) [0, 1, 2] rfl ?_
  refine r_aload_n C dL_takeHandle_0 rfl 2 rfl ?_
  refine r_iconst C (nI 0) dL_takeHandle_1 (by decide) ?_
  refine r_aload_n C dL_takeHandle_2 rfl 0 rfl ?_
  refine r_iload_n C dL_takeHandle_3 rfl 1 rfl ?_
  refine r_catch_i (nA := 1) C hN hT (Nat.le_of_ble_eq_true rfl) [.int x] (c_X7_takeHandleX l D cs ad hfl M x hbad) (tt_V ml_L_44 im_X7_takeHandle se_X7_takeHandle in_X7 co_X7_takeHandle) ⟨rfl, rfl⟩ ⟨rfl, by decide, by decide, by decide⟩ ⟨Nat.le_of_ble_eq_true rfl, Nat.le_of_ble_eq_true rfl⟩ (by decide) rfl rfl rfl rfl rfl (Nat.le_of_ble_eq_true rfl) dL_takeHandle_4 [] ⟨0, 9, 12, 13⟩ [] rfl (fun _ hz => absurd hz List.not_mem_nil) (by decide) (by decide) cl_L_13 (by decide +kernel) (fun q1 Mu1 qu1 => ?_)
  refine r_astore_n C [(3, .ref q1), (0, .ref (ad 117)), (1, .int x), (2, .ref (ad 145))] dL_takeHandle_12 rfl (by decide) rfl ?_
  refine r_iconst C (nI 1) dL_takeHandle_13 (by decide) ?_
  exact E 1 _ _ _ _ (Nat.le_of_ble_eq_true rfl) dL_takeHandle_14 (⟨rfl, qu1⟩)
set_option maxRecDepth 100000 in
set_option maxHeartbeats 4000000 in
theorem w_append (l : Launch) (D : va_G) (cs : Nat → ClassId) (ad : Nat → Nat) (M : Mm) (len : Nat) (hlen : M.1 123 1 = nI len) (hl60 : len ≤ 60) (c : Nat) (hc1 : 33 ≤ c) (hc2 : c ≤ 126) (hlt : len < 60) : ∀ sz : Nat, Met l yL_append (.codeWith yL_append cL_append 4 (some .int) [(0, 9, 12, 13), (0, 9, 15, 28)] :: TT) { frames := 1, cells := 0, slots := 6 * 0, locals := 21 } (va_Pc [.ref (ad 117), .int (nI c), .ref (ad 145)] (fun U9 => U9.heap.size = sz ∧ wB D cs ad (fA ad sz) M U9 ∧ xX (fA ad sz) U9 U9.heap)) (va_Qi (fun r M2 => r = nI 0 ∧ ∃ v9 M9, (fun r M2 => r = nI (len + 1) ∧ M2 = mI (mI M 124 len (nI c)) 123 1 (nI (len + 1))) v9 M9 ∧ M2 = mJ M9 145 0 (v9.toInt64)) (wB D cs ad (fA ad sz)) (fA ad sz)) 0 (6 * 0) (fA ad sz) := by
  refine st_W (by decide) (Nat.le_of_ble_eq_true rfl) (fun κ C hN hT E => ?_)
  refine r_lv (lv2 := [(0, .ref (ad 117)), (1, .int (nI c)), (2, .ref (ad 145))]) [0, 1, 2] rfl ?_
  refine r_aload_n C dL_append_0 rfl 2 rfl ?_
  refine r_iconst C (nI 0) dL_append_1 (by decide) ?_
  refine r_aload_n C dL_append_2 rfl 0 rfl ?_
  refine r_iload_n C dL_append_3 rfl 1 rfl ?_
  refine r_ncallV_i (nA := 1) C hN (Nat.le_of_ble_eq_true rfl) [.int (nI c)] (c_X7_append l D cs ad M len hlen hl60 c hc1 hc2 hlt) (tt_V ml_L_47 im_X7_append se_X7_append in_X7 co_X7_append) ⟨rfl, rfl⟩ ⟨rfl, by decide, by decide, by decide⟩ ⟨Nat.le_of_ble_eq_true rfl, Nat.le_of_ble_eq_true rfl⟩ (by decide) rfl rfl rfl rfl rfl (Nat.le_of_ble_eq_true rfl) dL_append_4 (fun r1 Mu1 qu1 => ?_)
  refine r_i2l C dL_append_7 ?_
  refine r_last C (id := 145) (n := 1) (a := 0) (by decide) (fun _ => rfl) (by decide) (by decide) dL_append_8 ?_
  refine r_goto C 18 dL_append_9 (by decide) ?_
  refine r_iconst C (nI 0) dL_append_18 (by decide) ?_
  exact E 0 _ _ _ _ (Nat.le_of_ble_eq_true rfl) dL_append_19 (⟨rfl, r1, Mu1, qu1, rfl⟩)
set_option maxRecDepth 100000 in
set_option maxHeartbeats 4000000 in
theorem w_appendX (l : Launch) (D : va_G) (cs : Nat → ClassId) (ad : Nat → Nat) (hfl : l.stackTraces = false) (M : Mm) (x : Int32) (hbad : wit x (nI 33) (nI 126) = false) : ∀ sz : Nat, Met l yL_append (.codeWith yL_append cL_append 4 (some .int) [(0, 9, 12, 13), (0, 9, 15, 28)] :: TT) { frames := 7, cells := 1, slots := 6 * 1, locals := 113 } (va_Pc [.ref (ad 117), .int x, .ref (ad 145)] (fun U9 => U9.heap.size = sz ∧ wB D cs ad (fA ad sz) M U9 ∧ xX (fA ad sz) U9 U9.heap)) (va_Qi (fun r M2 => r = nI 1 ∧ (fun M2 => M2 = M) M2) (wB D cs ad (fA ad sz)) (fA ad sz)) 1 (6 * 1) (fA ad sz) := by
  refine st_W (by decide) (Nat.le_of_ble_eq_true rfl) (fun κ C hN hT E => ?_)
  refine r_lv (lv2 := [(0, .ref (ad 117)), (1, .int x), (2, .ref (ad 145))]) [0, 1, 2] rfl ?_
  refine r_aload_n C dL_append_0 rfl 2 rfl ?_
  refine r_iconst C (nI 0) dL_append_1 (by decide) ?_
  refine r_aload_n C dL_append_2 rfl 0 rfl ?_
  refine r_iload_n C dL_append_3 rfl 1 rfl ?_
  refine r_catch_i (nA := 1) C hN hT (Nat.le_of_ble_eq_true rfl) [.int x] (c_X7_appendX l D cs ad hfl M x hbad) (tt_V ml_L_47 im_X7_append se_X7_append in_X7 co_X7_append) ⟨rfl, rfl⟩ ⟨rfl, by decide, by decide, by decide⟩ ⟨Nat.le_of_ble_eq_true rfl, Nat.le_of_ble_eq_true rfl⟩ (by decide) rfl rfl rfl rfl rfl (Nat.le_of_ble_eq_true rfl) dL_append_4 [] ⟨0, 9, 12, 13⟩ [⟨0, 9, 15, 28⟩] rfl (fun _ hz => absurd hz List.not_mem_nil) (by decide) (by decide) cl_L_13 (by decide +kernel) (fun q1 Mu1 qu1 => ?_)
  refine r_astore_n C [(3, .ref q1), (0, .ref (ad 117)), (1, .int x), (2, .ref (ad 145))] dL_append_12 rfl (by decide) rfl ?_
  refine r_iconst C (nI 1) dL_append_13 (by decide) ?_
  exact E 1 _ _ _ _ (Nat.le_of_ble_eq_true rfl) dL_append_14 (⟨rfl, qu1⟩)
set_option maxRecDepth 100000 in
set_option maxHeartbeats 4000000 in
theorem w_appendY (l : Launch) (D : va_G) (cs : Nat → ClassId) (ad : Nat → Nat) (hfl : l.stackTraces = false) (M : Mm) (hlen : M.1 123 1 = nI 60) (c : Nat) (hc1 : 33 ≤ c) (hc2 : c ≤ 126) : ∀ sz : Nat, Met l yL_append (.codeWith yL_append cL_append 4 (some .int) [(0, 9, 12, 13), (0, 9, 15, 28)] :: TT) { frames := 7, cells := 1, slots := 6 * 1, locals := 113 } (va_Pc [.ref (ad 117), .int (nI c), .ref (ad 145)] (fun U9 => U9.heap.size = sz ∧ wB D cs ad (fA ad sz) M U9 ∧ xX (fA ad sz) U9 U9.heap)) (va_Qi (fun r M2 => r = nI 2 ∧ (fun M2 => M2 = M) M2) (wB D cs ad (fA ad sz)) (fA ad sz)) 1 (6 * 1) (fA ad sz) := by
  refine st_W (by decide) (Nat.le_of_ble_eq_true rfl) (fun κ C hN hT E => ?_)
  refine r_lv (lv2 := [(0, .ref (ad 117)), (1, .int (nI c)), (2, .ref (ad 145))]) [0, 1, 2] rfl ?_
  refine r_aload_n C dL_append_0 rfl 2 rfl ?_
  refine r_iconst C (nI 0) dL_append_1 (by decide) ?_
  refine r_aload_n C dL_append_2 rfl 0 rfl ?_
  refine r_iload_n C dL_append_3 rfl 1 rfl ?_
  refine r_catch_i (nA := 1) C hN hT (Nat.le_of_ble_eq_true rfl) [.int (nI c)] (c_X7_appendY l D cs ad hfl M hlen c hc1 hc2) (tt_V ml_L_47 im_X7_append se_X7_append in_X7 co_X7_append) ⟨rfl, rfl⟩ ⟨rfl, by decide, by decide, by decide⟩ ⟨Nat.le_of_ble_eq_true rfl, Nat.le_of_ble_eq_true rfl⟩ (by decide) rfl rfl rfl rfl rfl (Nat.le_of_ble_eq_true rfl) dL_append_4 [⟨0, 9, 12, 13⟩] ⟨0, 9, 15, 28⟩ [] rfl (fun z hz => by rcases List.mem_singleton.mp hz with rfl; exact ⟨by decide, _, cl_L_13, by decide +kernel⟩) (by decide) (by decide) cl_L_28 (by decide +kernel) (fun q1 Mu1 qu1 => ?_)
  refine r_astore_n C [(3, .ref q1), (0, .ref (ad 117)), (1, .int (nI c)), (2, .ref (ad 145))] dL_append_15 rfl (by decide) rfl ?_
  refine r_iconst C (nI 2) dL_append_16 (by decide) ?_
  exact E 1 _ _ _ _ (Nat.le_of_ble_eq_true rfl) dL_append_17 (⟨rfl, qu1⟩)
set_option maxRecDepth 100000 in
set_option maxHeartbeats 4000000 in
theorem w_read (l : Launch) (D : va_G) (cs : Nat → ClassId) (ad : Nat → Nat) (M : Mm) (z : Nat → Int32) (n d : Nat) (hg : gv M 0 (gH 0) z n d) (hn8 : n ≤ 8) (lt : Nat) (hlt : M.1 120 2 = nI lt) (hlt6 : lt < 6) (s9 : Nat) (hs : M.1 120 3 = nI s9) (hs6 : s9 ≤ 6) (hn1 : 1 ≤ n) (ct : Nat → Nat) (len : Nat) (hct : ∀ k, k < len → M.1 124 k = nI (ct k) ∧ ct k ≤ 126) (hlen : M.1 123 1 = nI len) (hl60 : len ≤ 60) (J : Nat) (hJ : 3 * J = len + 1) (hda : ∀ j, 3 * j + 1 < len → 48 ≤ ct (3 * j) ∧ ct (3 * j) < ct (3 * j + 1) ∧ ct (3 * j + 1) < 48 + n) (hwh : decide (len % 3 = 2 ∧ fi (fun k => !goN ct n k) len = len) = true) (hm2 : gm (rdR z (fun j => ct (3 * j) - 48) (fun j => ct (3 * j + 1) - 48) J) n) : ∀ sz : Nat, Met l yL_read (.codeWith yL_read cL_read 3 (some .int) [(0, 8, 11, 13)] :: TT) { frames := 5, cells := 0, slots := 6 * 0, locals := 144 } (va_Pc [.ref (ad 117), .ref (ad 145)] (fun U9 => U9.heap.size = sz ∧ wB D cs ad (fA ad sz) M U9 ∧ xX (fA ad sz) U9 U9.heap)) (va_Qi (fun r M2 => r = nI 0 ∧ ∃ v9 M9, (fun r M2 => r = edz (rdR z (fun j => ct (3 * j) - 48) (fun j => ct (3 * j + 1) - 48) J) n ∧ ∃ M1 M3, svP M M1 z n d lt s9 (M.1 117 9) ∧ oG 0 M1 M3 ∧ gv M3 0 (gH 0) (rdR z (fun j => ct (3 * j) - 48) (fun j => ct (3 * j + 1) - 48) J) n d ∧ M2 = mI M3 123 1 (nI 0)) v9 M9 ∧ M2 = mJ M9 145 0 (v9.toInt64)) (wB D cs ad (fA ad sz)) (fA ad sz)) 0 (6 * 0) (fA ad sz) := by
  refine st_W (by decide) (Nat.le_of_ble_eq_true rfl) (fun κ C hN hT E => ?_)
  refine r_lv (lv2 := [(0, .ref (ad 117)), (1, .ref (ad 145))]) [0, 1] rfl ?_
  refine r_aload_n C dL_read_0 rfl 1 rfl ?_
  refine r_iconst C (nI 0) dL_read_1 (by decide) ?_
  refine r_aload_n C dL_read_2 rfl 0 rfl ?_
  refine r_ncallV_i (nA := 0) C hN (Nat.le_of_ble_eq_true rfl) [] (c_X7_read l D cs ad M z n d hg hn8 lt hlt hlt6 s9 hs hs6 hn1 ct len hct hlen hl60 J hJ hda hwh hm2) (tt_V ml_L_50 im_X7_read se_X7_read in_X7 co_X7_read) ⟨rfl, rfl⟩ ⟨rfl, by decide, by decide, by decide⟩ ⟨Nat.le_of_ble_eq_true rfl, Nat.le_of_ble_eq_true rfl⟩ (by decide) rfl rfl rfl rfl rfl (Nat.le_of_ble_eq_true rfl) dL_read_3 (fun r1 Mu1 qu1 => ?_)
  refine r_i2l C dL_read_6 ?_
  refine r_last C (id := 145) (n := 1) (a := 0) (by decide) (fun _ => rfl) (by decide) (by decide) dL_read_7 ?_
  refine r_goto C 14 dL_read_8 (by decide) ?_
  refine r_iconst C (nI 0) dL_read_14 (by decide) ?_
  exact E 0 _ _ _ _ (Nat.le_of_ble_eq_true rfl) dL_read_15 (⟨rfl, r1, Mu1, qu1, rfl⟩)
set_option maxRecDepth 100000 in
set_option maxHeartbeats 4000000 in
theorem w_readX (l : Launch) (D : va_G) (cs : Nat → ClassId) (ad : Nat → Nat) (hfl : l.stackTraces = false) (M : Mm) (z : Nat → Int32) (n d : Nat) (hg : gv M 0 (gH 0) z n d) (hn8 : n ≤ 8) (hn1 : 1 ≤ n) (ct : Nat → Nat) (len : Nat) (hct : ∀ k, k < len → M.1 124 k = nI (ct k) ∧ ct k ≤ 126) (hlen : M.1 123 1 = nI len) (hl60 : len ≤ 60) (hwh : decide (len % 3 = 2 ∧ fi (fun k => !goN ct n k) len = len) = false) : ∀ sz : Nat, Met l yL_read (.codeWith yL_read cL_read 3 (some .int) [(0, 8, 11, 13)] :: TT) { frames := 7, cells := 1, slots := 6 * 1, locals := 112 } (va_Pc [.ref (ad 117), .ref (ad 145)] (fun U9 => U9.heap.size = sz ∧ wB D cs ad (fA ad sz) M U9 ∧ xX (fA ad sz) U9 U9.heap)) (va_Qi (fun r M2 => r = nI 1 ∧ (fun M2 => M2 = M) M2) (wB D cs ad (fA ad sz)) (fA ad sz)) 1 (6 * 1) (fA ad sz) := by
  refine st_W (by decide) (Nat.le_of_ble_eq_true rfl) (fun κ C hN hT E => ?_)
  refine r_lv (lv2 := [(0, .ref (ad 117)), (1, .ref (ad 145))]) [0, 1] rfl ?_
  refine r_aload_n C dL_read_0 rfl 1 rfl ?_
  refine r_iconst C (nI 0) dL_read_1 (by decide) ?_
  refine r_aload_n C dL_read_2 rfl 0 rfl ?_
  refine r_catch_i (nA := 0) C hN hT (Nat.le_of_ble_eq_true rfl) [] (c_X7_readX l D cs ad hfl M z n d hg hn8 hn1 ct len hct hlen hl60 hwh) (tt_V ml_L_50 im_X7_read se_X7_read in_X7 co_X7_read) ⟨rfl, rfl⟩ ⟨rfl, by decide, by decide, by decide⟩ ⟨Nat.le_of_ble_eq_true rfl, Nat.le_of_ble_eq_true rfl⟩ (by decide) rfl rfl rfl rfl rfl (Nat.le_of_ble_eq_true rfl) dL_read_3 [] ⟨0, 8, 11, 13⟩ [] rfl (fun _ hz => absurd hz List.not_mem_nil) (by decide) (by decide) cl_L_13 (by decide +kernel) (fun q1 Mu1 qu1 => ?_)
  refine r_astore_n C [(2, .ref q1), (0, .ref (ad 117)), (1, .ref (ad 145))] dL_read_11 rfl (by decide) rfl ?_
  refine r_iconst C (nI 1) dL_read_12 (by decide) ?_
  exact E 1 _ _ _ _ (Nat.le_of_ble_eq_true rfl) dL_read_13 (⟨rfl, qu1⟩)
set_option maxRecDepth 100000 in
set_option maxHeartbeats 4000000 in
theorem w_take (l : Launch) (D : va_G) (cs : Nat → ClassId) (ad : Nat → Nat) (M : Mm) (z : Nat → Int32) (n d : Nat) (hg : gv M 0 (gH 0) z n d) (hn8 : n ≤ 8) (q : Nat) (hq : q ≤ 1) : ∀ sz : Nat, Met l yL_take (.codeWith yL_take cL_take 4 (some .int) [(0, 9, 12, 19)] :: TT) { frames := 3, cells := 0, slots := 6 * 0, locals := 103 } (va_Pc [.ref (ad 117), .int (nI q), .ref (ad 145)] (fun U9 => U9.heap.size = sz ∧ wB D cs ad (fA ad sz) M U9 ∧ xX (fA ad sz) U9 U9.heap)) (va_Qi (fun r M2 => r = nI 0 ∧ ∃ v9 M9, (fun r M2 => r = nI n ∧ ∃ M1, oG (1 + q) M M1 ∧ gv M1 (1 + q) (gH (1 + q)) z n d ∧ M2 = mI M1 119 q (nI 1)) v9 M9 ∧ M2 = mJ M9 145 0 (v9.toInt64)) (wB D cs ad (fA ad sz)) (fA ad sz)) 0 (6 * 0) (fA ad sz) := by
  refine st_W (by decide) (Nat.le_of_ble_eq_true rfl) (fun κ C hN hT E => ?_)
  refine r_lv (lv2 := [(0, .ref (ad 117)), (1, .int (nI q)), (2, .ref (ad 145))]) [0, 1, 2] rfl ?_
  refine r_aload_n C dL_take_0 rfl 2 rfl ?_
  refine r_iconst C (nI 0) dL_take_1 (by decide) ?_
  refine r_aload_n C dL_take_2 rfl 0 rfl ?_
  refine r_iload_n C dL_take_3 rfl 1 rfl ?_
  refine r_ncallV_i (nA := 1) C hN (Nat.le_of_ble_eq_true rfl) [.int (nI q)] (c_X7_take l D cs ad M z n d hg hn8 q hq) (tt_V ml_L_53 im_X7_take se_X7_take in_X7 co_X7_take) ⟨rfl, rfl⟩ ⟨rfl, by decide, by decide, by decide⟩ ⟨Nat.le_of_ble_eq_true rfl, Nat.le_of_ble_eq_true rfl⟩ (by decide) rfl rfl rfl rfl rfl (Nat.le_of_ble_eq_true rfl) dL_take_4 (fun r1 Mu1 qu1 => ?_)
  refine r_i2l C dL_take_7 ?_
  refine r_last C (id := 145) (n := 1) (a := 0) (by decide) (fun _ => rfl) (by decide) (by decide) dL_take_8 ?_
  refine r_goto C 15 dL_take_9 (by decide) ?_
  refine r_iconst C (nI 0) dL_take_15 (by decide) ?_
  exact E 0 _ _ _ _ (Nat.le_of_ble_eq_true rfl) dL_take_16 (⟨rfl, r1, Mu1, qu1, rfl⟩)
set_option maxRecDepth 100000 in
set_option maxHeartbeats 4000000 in
theorem w_takeX (l : Launch) (D : va_G) (cs : Nat → ClassId) (ad : Nat → Nat) (hfl : l.stackTraces = false) (M : Mm) (x : Int32) (hbad : wit x (nI 0) (nI 1) = false) : ∀ sz : Nat, Met l yL_take (.codeWith yL_take cL_take 4 (some .int) [(0, 9, 12, 19)] :: TT) { frames := 8, cells := 1, slots := 6 * 1, locals := 134 } (va_Pc [.ref (ad 117), .int x, .ref (ad 145)] (fun U9 => U9.heap.size = sz ∧ wB D cs ad (fA ad sz) M U9 ∧ xX (fA ad sz) U9 U9.heap)) (va_Qi (fun r M2 => r = nI 1 ∧ (fun M2 => M2 = M) M2) (wB D cs ad (fA ad sz)) (fA ad sz)) 1 (6 * 1) (fA ad sz) := by
  refine st_W (by decide) (Nat.le_of_ble_eq_true rfl) (fun κ C hN hT E => ?_)
  refine r_lv (lv2 := [(0, .ref (ad 117)), (1, .int x), (2, .ref (ad 145))]) [0, 1, 2] rfl ?_
  refine r_aload_n C dL_take_0 rfl 2 rfl ?_
  refine r_iconst C (nI 0) dL_take_1 (by decide) ?_
  refine r_aload_n C dL_take_2 rfl 0 rfl ?_
  refine r_iload_n C dL_take_3 rfl 1 rfl ?_
  refine r_catch_i (nA := 1) C hN hT (Nat.le_of_ble_eq_true rfl) [.int x] (c_X7_takeX l D cs ad hfl M x hbad) (tt_V ml_L_53 im_X7_take se_X7_take in_X7 co_X7_take) ⟨rfl, rfl⟩ ⟨rfl, by decide, by decide, by decide⟩ ⟨Nat.le_of_ble_eq_true rfl, Nat.le_of_ble_eq_true rfl⟩ (by decide) rfl rfl rfl rfl rfl (Nat.le_of_ble_eq_true rfl) dL_take_4 [] ⟨0, 9, 12, 19⟩ [] rfl (fun _ hz => absurd hz List.not_mem_nil) (by decide) (by decide) cl_L_19 (by decide +kernel) (fun q1 Mu1 qu1 => ?_)
  refine r_astore_n C [(3, .ref q1), (0, .ref (ad 117)), (1, .int x), (2, .ref (ad 145))] dL_take_12 rfl (by decide) rfl ?_
  refine r_iconst C (nI 1) dL_take_13 (by decide) ?_
  exact E 1 _ _ _ _ (Nat.le_of_ble_eq_true rfl) dL_take_14 (⟨rfl, qu1⟩)
set_option maxRecDepth 100000 in
set_option maxHeartbeats 4000000 in
theorem w_restore (l : Launch) (D : va_G) (cs : Nat → ClassId) (ad : Nat → Nat) (M : Mm) (z : Nat → Int32) (n d : Nat) (hg : gv M 0 (gH 0) z n d) (hn8 : n ≤ 8) (lt : Nat) (hlt : M.1 120 2 = nI lt) (hlt6 : lt < 6) (s9 : Nat) (hs : M.1 120 3 = nI s9) (hs6 : s9 ≤ 6) (q : Nat) (hq : q ≤ 1) (ht : M.1 119 q = nI 1) (y : Nat → Int32) (n2 d2 : Nat) (hy : gv M (1 + q) (gH (1 + q)) y n2 d2) (hn28 : n2 ≤ 8) : ∀ sz : Nat, Met l yL_restore (.codeWith yL_restore cL_restore 4 (some .int) [(0, 9, 12, 19), (0, 9, 15, 28)] :: TT) { frames := 5, cells := 0, slots := 6 * 0, locals := 145 } (va_Pc [.ref (ad 117), .int (nI q), .ref (ad 145)] (fun U9 => U9.heap.size = sz ∧ wB D cs ad (fA ad sz) M U9 ∧ xX (fA ad sz) U9 U9.heap)) (va_Qi (fun r M2 => r = nI 0 ∧ ∃ v9 M9, (fun r M2 => r = nI n2 ∧ chP M M2 z n d lt s9 y n2 d2) v9 M9 ∧ M2 = mJ M9 145 0 (v9.toInt64)) (wB D cs ad (fA ad sz)) (fA ad sz)) 0 (6 * 0) (fA ad sz) := by
  refine st_W (by decide) (Nat.le_of_ble_eq_true rfl) (fun κ C hN hT E => ?_)
  refine r_lv (lv2 := [(0, .ref (ad 117)), (1, .int (nI q)), (2, .ref (ad 145))]) [0, 1, 2] rfl ?_
  refine r_aload_n C dL_restore_0 rfl 2 rfl ?_
  refine r_iconst C (nI 0) dL_restore_1 (by decide) ?_
  refine r_aload_n C dL_restore_2 rfl 0 rfl ?_
  refine r_iload_n C dL_restore_3 rfl 1 rfl ?_
  refine r_ncallV_i (nA := 1) C hN (Nat.le_of_ble_eq_true rfl) [.int (nI q)] (c_X7_restore l D cs ad M z n d hg hn8 lt hlt hlt6 s9 hs hs6 q hq ht y n2 d2 hy hn28) (tt_V ml_L_56 im_X7_restore se_X7_restore in_X7 co_X7_restore) ⟨rfl, rfl⟩ ⟨rfl, by decide, by decide, by decide⟩ ⟨Nat.le_of_ble_eq_true rfl, Nat.le_of_ble_eq_true rfl⟩ (by decide) rfl rfl rfl rfl rfl (Nat.le_of_ble_eq_true rfl) dL_restore_4 (fun r1 Mu1 qu1 => ?_)
  refine r_i2l C dL_restore_7 ?_
  refine r_last C (id := 145) (n := 1) (a := 0) (by decide) (fun _ => rfl) (by decide) (by decide) dL_restore_8 ?_
  refine r_goto C 18 dL_restore_9 (by decide) ?_
  refine r_iconst C (nI 0) dL_restore_18 (by decide) ?_
  exact E 0 _ _ _ _ (Nat.le_of_ble_eq_true rfl) dL_restore_19 (⟨rfl, r1, Mu1, qu1, rfl⟩)
set_option maxRecDepth 100000 in
set_option maxHeartbeats 4000000 in
theorem w_restoreX (l : Launch) (D : va_G) (cs : Nat → ClassId) (ad : Nat → Nat) (hfl : l.stackTraces = false) (M : Mm) (x : Int32) (hbad : wit x (nI 0) (nI 1) = false) : ∀ sz : Nat, Met l yL_restore (.codeWith yL_restore cL_restore 4 (some .int) [(0, 9, 12, 19), (0, 9, 15, 28)] :: TT) { frames := 9, cells := 1, slots := 6 * 1, locals := 155 } (va_Pc [.ref (ad 117), .int x, .ref (ad 145)] (fun U9 => U9.heap.size = sz ∧ wB D cs ad (fA ad sz) M U9 ∧ xX (fA ad sz) U9 U9.heap)) (va_Qi (fun r M2 => r = nI 1 ∧ (fun M2 => M2 = M) M2) (wB D cs ad (fA ad sz)) (fA ad sz)) 1 (6 * 1) (fA ad sz) := by
  refine st_W (by decide) (Nat.le_of_ble_eq_true rfl) (fun κ C hN hT E => ?_)
  refine r_lv (lv2 := [(0, .ref (ad 117)), (1, .int x), (2, .ref (ad 145))]) [0, 1, 2] rfl ?_
  refine r_aload_n C dL_restore_0 rfl 2 rfl ?_
  refine r_iconst C (nI 0) dL_restore_1 (by decide) ?_
  refine r_aload_n C dL_restore_2 rfl 0 rfl ?_
  refine r_iload_n C dL_restore_3 rfl 1 rfl ?_
  refine r_catch_i (nA := 1) C hN hT (Nat.le_of_ble_eq_true rfl) [.int x] (c_X7_restoreX l D cs ad hfl M x hbad) (tt_V ml_L_56 im_X7_restore se_X7_restore in_X7 co_X7_restore) ⟨rfl, rfl⟩ ⟨rfl, by decide, by decide, by decide⟩ ⟨Nat.le_of_ble_eq_true rfl, Nat.le_of_ble_eq_true rfl⟩ (by decide) rfl rfl rfl rfl rfl (Nat.le_of_ble_eq_true rfl) dL_restore_4 [] ⟨0, 9, 12, 19⟩ [⟨0, 9, 15, 28⟩] rfl (fun _ hz => absurd hz List.not_mem_nil) (by decide) (by decide) cl_L_19 (by decide +kernel) (fun q1 Mu1 qu1 => ?_)
  refine r_astore_n C [(3, .ref q1), (0, .ref (ad 117)), (1, .int x), (2, .ref (ad 145))] dL_restore_12 rfl (by decide) rfl ?_
  refine r_iconst C (nI 1) dL_restore_13 (by decide) ?_
  exact E 1 _ _ _ _ (Nat.le_of_ble_eq_true rfl) dL_restore_14 (⟨rfl, qu1⟩)
set_option maxRecDepth 100000 in
set_option maxHeartbeats 4000000 in
theorem w_restoreF (l : Launch) (D : va_G) (cs : Nat → ClassId) (ad : Nat → Nat) (hfl : l.stackTraces = false) (M : Mm) (q : Nat) (hq : q ≤ 1) (ht : M.1 119 q = nI 0) : ∀ sz : Nat, Met l yL_restore (.codeWith yL_restore cL_restore 4 (some .int) [(0, 9, 12, 19), (0, 9, 15, 28)] :: TT) { frames := 8, cells := 1, slots := 6 * 1, locals := 134 } (va_Pc [.ref (ad 117), .int (nI q), .ref (ad 145)] (fun U9 => U9.heap.size = sz ∧ wB D cs ad (fA ad sz) M U9 ∧ xX (fA ad sz) U9 U9.heap)) (va_Qi (fun r M2 => r = nI 2 ∧ (fun M2 => M2 = M) M2) (wB D cs ad (fA ad sz)) (fA ad sz)) 1 (6 * 1) (fA ad sz) := by
  refine st_W (by decide) (Nat.le_of_ble_eq_true rfl) (fun κ C hN hT E => ?_)
  refine r_lv (lv2 := [(0, .ref (ad 117)), (1, .int (nI q)), (2, .ref (ad 145))]) [0, 1, 2] rfl ?_
  refine r_aload_n C dL_restore_0 rfl 2 rfl ?_
  refine r_iconst C (nI 0) dL_restore_1 (by decide) ?_
  refine r_aload_n C dL_restore_2 rfl 0 rfl ?_
  refine r_iload_n C dL_restore_3 rfl 1 rfl ?_
  refine r_catch_i (nA := 1) C hN hT (Nat.le_of_ble_eq_true rfl) [.int (nI q)] (c_X7_restoreF l D cs ad hfl M q hq ht) (tt_V ml_L_56 im_X7_restore se_X7_restore in_X7 co_X7_restore) ⟨rfl, rfl⟩ ⟨rfl, by decide, by decide, by decide⟩ ⟨Nat.le_of_ble_eq_true rfl, Nat.le_of_ble_eq_true rfl⟩ (by decide) rfl rfl rfl rfl rfl (Nat.le_of_ble_eq_true rfl) dL_restore_4 [⟨0, 9, 12, 19⟩] ⟨0, 9, 15, 28⟩ [] rfl (fun z hz => by rcases List.mem_singleton.mp hz with rfl; exact ⟨by decide, _, cl_L_19, by decide +kernel⟩) (by decide) (by decide) cl_L_28 (by decide +kernel) (fun q1 Mu1 qu1 => ?_)
  refine r_astore_n C [(3, .ref q1), (0, .ref (ad 117)), (1, .int (nI q)), (2, .ref (ad 145))] dL_restore_15 rfl (by decide) rfl ?_
  refine r_iconst C (nI 2) dL_restore_16 (by decide) ?_
  exact E 1 _ _ _ _ (Nat.le_of_ble_eq_true rfl) dL_restore_17 (⟨rfl, qu1⟩)
set_option maxRecDepth 100000 in
set_option maxHeartbeats 4000000 in
theorem w_undo (l : Launch) (D : va_G) (cs : Nat → ClassId) (ad : Nat → Nat) (M : Mm) (lt : Nat) (hlt : M.1 120 2 = nI lt) (hlt6 : lt < 6) (s9 : Nat) (hs : M.1 120 3 = nI s9) (hs6 : s9 ≤ 6) (hs1 : 1 ≤ s9) (y : Nat → Int32) (n2 d2 : Nat) (hy : gv M (3 + lt) (gH (3 + lt)) y n2 d2) (hn28 : n2 ≤ 8) : ∀ sz : Nat, Met l yL_undo (.codeWith yL_undo cL_undo 3 (some .int) [(0, 8, 11, 28)] :: TT) { frames := 3, cells := 0, slots := 6 * 0, locals := 102 } (va_Pc [.ref (ad 117), .ref (ad 145)] (fun U9 => U9.heap.size = sz ∧ wB D cs ad (fA ad sz) M U9 ∧ xX (fA ad sz) U9 U9.heap)) (va_Qi (fun r M2 => r = nI 0 ∧ ∃ v9 M9, (fun r M2 => r = nI (s9 - 1) ∧ ∃ M1, oG 0 M M1 ∧ gv M1 0 (gH 0) y n2 d2 ∧ M2 = mI (mI (mI M1 117 9 (M1.1 122 lt)) 120 2 (nI (pv6 lt))) 120 3 (nI (s9 - 1))) v9 M9 ∧ M2 = mJ M9 145 0 (v9.toInt64)) (wB D cs ad (fA ad sz)) (fA ad sz)) 0 (6 * 0) (fA ad sz) := by
  refine st_W (by decide) (Nat.le_of_ble_eq_true rfl) (fun κ C hN hT E => ?_)
  refine r_lv (lv2 := [(0, .ref (ad 117)), (1, .ref (ad 145))]) [0, 1] rfl ?_
  refine r_aload_n C dL_undo_0 rfl 1 rfl ?_
  refine r_iconst C (nI 0) dL_undo_1 (by decide) ?_
  refine r_aload_n C dL_undo_2 rfl 0 rfl ?_
  refine r_ncallV_i (nA := 0) C hN (Nat.le_of_ble_eq_true rfl) [] (c_X7_undo l D cs ad M lt hlt hlt6 s9 hs hs6 hs1 y n2 d2 hy hn28) (tt_V ml_L_59 im_X7_undo se_X7_undo in_X7 co_X7_undo) ⟨rfl, rfl⟩ ⟨rfl, by decide, by decide, by decide⟩ ⟨Nat.le_of_ble_eq_true rfl, Nat.le_of_ble_eq_true rfl⟩ (by decide) rfl rfl rfl rfl rfl (Nat.le_of_ble_eq_true rfl) dL_undo_3 (fun r1 Mu1 qu1 => ?_)
  refine r_i2l C dL_undo_6 ?_
  refine r_last C (id := 145) (n := 1) (a := 0) (by decide) (fun _ => rfl) (by decide) (by decide) dL_undo_7 ?_
  refine r_goto C 14 dL_undo_8 (by decide) ?_
  refine r_iconst C (nI 0) dL_undo_14 (by decide) ?_
  exact E 0 _ _ _ _ (Nat.le_of_ble_eq_true rfl) dL_undo_15 (⟨rfl, r1, Mu1, qu1, rfl⟩)
set_option maxRecDepth 100000 in
set_option maxHeartbeats 4000000 in
theorem w_undoX (l : Launch) (D : va_G) (cs : Nat → ClassId) (ad : Nat → Nat) (hfl : l.stackTraces = false) (M : Mm) (hs : M.1 120 3 = nI 0) : ∀ sz : Nat, Met l yL_undo (.codeWith yL_undo cL_undo 3 (some .int) [(0, 8, 11, 28)] :: TT) { frames := 7, cells := 1, slots := 6 * 1, locals := 112 } (va_Pc [.ref (ad 117), .ref (ad 145)] (fun U9 => U9.heap.size = sz ∧ wB D cs ad (fA ad sz) M U9 ∧ xX (fA ad sz) U9 U9.heap)) (va_Qi (fun r M2 => r = nI 1 ∧ (fun M2 => M2 = M) M2) (wB D cs ad (fA ad sz)) (fA ad sz)) 1 (6 * 1) (fA ad sz) := by
  refine st_W (by decide) (Nat.le_of_ble_eq_true rfl) (fun κ C hN hT E => ?_)
  refine r_lv (lv2 := [(0, .ref (ad 117)), (1, .ref (ad 145))]) [0, 1] rfl ?_
  refine r_aload_n C dL_undo_0 rfl 1 rfl ?_
  refine r_iconst C (nI 0) dL_undo_1 (by decide) ?_
  refine r_aload_n C dL_undo_2 rfl 0 rfl ?_
  refine r_catch_i (nA := 0) C hN hT (Nat.le_of_ble_eq_true rfl) [] (c_X7_undoX l D cs ad hfl M hs) (tt_V ml_L_59 im_X7_undo se_X7_undo in_X7 co_X7_undo) ⟨rfl, rfl⟩ ⟨rfl, by decide, by decide, by decide⟩ ⟨Nat.le_of_ble_eq_true rfl, Nat.le_of_ble_eq_true rfl⟩ (by decide) rfl rfl rfl rfl rfl (Nat.le_of_ble_eq_true rfl) dL_undo_3 [] ⟨0, 8, 11, 28⟩ [] rfl (fun _ hz => absurd hz List.not_mem_nil) (by decide) (by decide) cl_L_28 (by decide +kernel) (fun q1 Mu1 qu1 => ?_)
  refine r_astore_n C [(2, .ref q1), (0, .ref (ad 117)), (1, .ref (ad 145))] dL_undo_11 rfl (by decide) rfl ?_
  refine r_iconst C (nI 1) dL_undo_12 (by decide) ?_
  exact E 1 _ _ _ _ (Nat.le_of_ble_eq_true rfl) dL_undo_13 (⟨rfl, qu1⟩)
set_option maxRecDepth 100000 in
set_option maxHeartbeats 4000000 in
theorem w_joined (l : Launch) (D : va_G) (cs : Nat → ClassId) (ad : Nat → Nat) (M : Mm) (z : Nat → Int32) (n d : Nat) (hg : gv M 0 (gH 0) z n d) (hn8 : n ≤ 8) (hm : gm z n) (a b : Nat) (ha : a < n) (hb : b < n) : ∀ sz : Nat, Met l yL_joined (.codeWith yL_joined cL_joined 5 (some .int) [(0, 10, 13, 19)] :: TT) { frames := 2, cells := 0, slots := 6 * 0, locals := 44 } (va_Pc [.ref (ad 117), .int (nI a), .int (nI b), .ref (ad 145)] (fun U9 => U9.heap.size = sz ∧ wB D cs ad (fA ad sz) M U9 ∧ xX (fA ad sz) U9 U9.heap)) (va_Qi (fun r M2 => r = nI 0 ∧ ∃ v9 M9, (fun r M2 => r = bI (bt (z (10 + a)) b) ∧ M2 = M) v9 M9 ∧ M2 = mJ M9 145 0 (v9.toInt64)) (wB D cs ad (fA ad sz)) (fA ad sz)) 0 (6 * 0) (fA ad sz) := by
  refine st_W (by decide) (Nat.le_of_ble_eq_true rfl) (fun κ C hN hT E => ?_)
  refine r_lv (lv2 := [(0, .ref (ad 117)), (1, .int (nI a)), (2, .int (nI b)), (3, .ref (ad 145))]) [0, 1, 2, 3] rfl ?_
  refine r_aload_n C dL_joined_0 rfl 3 rfl ?_
  refine r_iconst C (nI 0) dL_joined_1 (by decide) ?_
  refine r_aload_n C dL_joined_2 rfl 0 rfl ?_
  refine r_iload_n C dL_joined_3 rfl 1 rfl ?_
  refine r_iload_n C dL_joined_4 rfl 2 rfl ?_
  refine r_ncallV_i (nA := 2) C hN (Nat.le_of_ble_eq_true rfl) [.int (nI a), .int (nI b)] (c_X7_joined l D cs ad M z n d hg hn8 hm a b ha hb) (tt_V ml_L_62 im_X7_joined se_X7_joined in_X7 co_X7_joined) ⟨rfl, rfl⟩ ⟨rfl, by decide, by decide, by decide⟩ ⟨Nat.le_of_ble_eq_true rfl, Nat.le_of_ble_eq_true rfl⟩ (by decide) rfl rfl rfl rfl rfl (Nat.le_of_ble_eq_true rfl) dL_joined_5 (fun r1 Mu1 qu1 => ?_)
  refine r_i2l C dL_joined_8 ?_
  refine r_last C (id := 145) (n := 1) (a := 0) (by decide) (fun _ => rfl) (by decide) (by decide) dL_joined_9 ?_
  refine r_goto C 17 dL_joined_10 (by decide) ?_
  refine r_iconst C (nI 0) dL_joined_17 (by decide) ?_
  exact E 0 _ _ _ _ (Nat.le_of_ble_eq_true rfl) dL_joined_18 (⟨rfl, r1, Mu1, qu1, rfl⟩)
set_option maxRecDepth 100000 in
set_option maxHeartbeats 4000000 in
theorem w_joinedX1 (l : Launch) (D : va_G) (cs : Nat → ClassId) (ad : Nat → Nat) (hfl : l.stackTraces = false) (M : Mm) (z : Nat → Int32) (n d : Nat) (hg : gv M 0 (gH 0) z n d) (hn8 : n ≤ 8) (hn1 : 1 ≤ n) (x y : Int32) (hbad : wit x (nI 0) (nI n - nI 1) = false) : ∀ sz : Nat, Met l yL_joined (.codeWith yL_joined cL_joined 5 (some .int) [(0, 10, 13, 19)] :: TT) { frames := 8, cells := 1, slots := 6 * 1, locals := 135 } (va_Pc [.ref (ad 117), .int x, .int y, .ref (ad 145)] (fun U9 => U9.heap.size = sz ∧ wB D cs ad (fA ad sz) M U9 ∧ xX (fA ad sz) U9 U9.heap)) (va_Qi (fun r M2 => r = nI 1 ∧ (fun M2 => M2 = M) M2) (wB D cs ad (fA ad sz)) (fA ad sz)) 1 (6 * 1) (fA ad sz) := by
  refine st_W (by decide) (Nat.le_of_ble_eq_true rfl) (fun κ C hN hT E => ?_)
  refine r_lv (lv2 := [(0, .ref (ad 117)), (1, .int x), (2, .int y), (3, .ref (ad 145))]) [0, 1, 2, 3] rfl ?_
  refine r_aload_n C dL_joined_0 rfl 3 rfl ?_
  refine r_iconst C (nI 0) dL_joined_1 (by decide) ?_
  refine r_aload_n C dL_joined_2 rfl 0 rfl ?_
  refine r_iload_n C dL_joined_3 rfl 1 rfl ?_
  refine r_iload_n C dL_joined_4 rfl 2 rfl ?_
  refine r_catch_i (nA := 2) C hN hT (Nat.le_of_ble_eq_true rfl) [.int x, .int y] (c_X7_joinedX1 l D cs ad hfl M z n d hg hn8 hn1 x y hbad) (tt_V ml_L_62 im_X7_joined se_X7_joined in_X7 co_X7_joined) ⟨rfl, rfl⟩ ⟨rfl, by decide, by decide, by decide⟩ ⟨Nat.le_of_ble_eq_true rfl, Nat.le_of_ble_eq_true rfl⟩ (by decide) rfl rfl rfl rfl rfl (Nat.le_of_ble_eq_true rfl) dL_joined_5 [] ⟨0, 10, 13, 19⟩ [] rfl (fun _ hz => absurd hz List.not_mem_nil) (by decide) (by decide) cl_L_19 (by decide +kernel) (fun q1 Mu1 qu1 => ?_)
  refine r_astore C [(4, .ref q1), (0, .ref (ad 117)), (1, .int x), (2, .int y), (3, .ref (ad 145))] dL_joined_13 (by decide) rfl ?_
  refine r_iconst C (nI 1) dL_joined_15 (by decide) ?_
  exact E 1 _ _ _ _ (Nat.le_of_ble_eq_true rfl) dL_joined_16 (⟨rfl, qu1⟩)
set_option maxRecDepth 100000 in
set_option maxHeartbeats 4000000 in
theorem w_joinedX2 (l : Launch) (D : va_G) (cs : Nat → ClassId) (ad : Nat → Nat) (hfl : l.stackTraces = false) (M : Mm) (z : Nat → Int32) (n d : Nat) (hg : gv M 0 (gH 0) z n d) (hn8 : n ≤ 8) (hn1 : 1 ≤ n) (a : Nat) (ha : a < n) (x : Int32) (hbad : wit x (nI 0) (nI n - nI 1) = false) : ∀ sz : Nat, Met l yL_joined (.codeWith yL_joined cL_joined 5 (some .int) [(0, 10, 13, 19)] :: TT) { frames := 8, cells := 1, slots := 6 * 1, locals := 135 } (va_Pc [.ref (ad 117), .int (nI a), .int x, .ref (ad 145)] (fun U9 => U9.heap.size = sz ∧ wB D cs ad (fA ad sz) M U9 ∧ xX (fA ad sz) U9 U9.heap)) (va_Qi (fun r M2 => r = nI 1 ∧ (fun M2 => M2 = M) M2) (wB D cs ad (fA ad sz)) (fA ad sz)) 1 (6 * 1) (fA ad sz) := by
  refine st_W (by decide) (Nat.le_of_ble_eq_true rfl) (fun κ C hN hT E => ?_)
  refine r_lv (lv2 := [(0, .ref (ad 117)), (1, .int (nI a)), (2, .int x), (3, .ref (ad 145))]) [0, 1, 2, 3] rfl ?_
  refine r_aload_n C dL_joined_0 rfl 3 rfl ?_
  refine r_iconst C (nI 0) dL_joined_1 (by decide) ?_
  refine r_aload_n C dL_joined_2 rfl 0 rfl ?_
  refine r_iload_n C dL_joined_3 rfl 1 rfl ?_
  refine r_iload_n C dL_joined_4 rfl 2 rfl ?_
  refine r_catch_i (nA := 2) C hN hT (Nat.le_of_ble_eq_true rfl) [.int (nI a), .int x] (c_X7_joinedX2 l D cs ad hfl M z n d hg hn8 hn1 a ha x hbad) (tt_V ml_L_62 im_X7_joined se_X7_joined in_X7 co_X7_joined) ⟨rfl, rfl⟩ ⟨rfl, by decide, by decide, by decide⟩ ⟨Nat.le_of_ble_eq_true rfl, Nat.le_of_ble_eq_true rfl⟩ (by decide) rfl rfl rfl rfl rfl (Nat.le_of_ble_eq_true rfl) dL_joined_5 [] ⟨0, 10, 13, 19⟩ [] rfl (fun _ hz => absurd hz List.not_mem_nil) (by decide) (by decide) cl_L_19 (by decide +kernel) (fun q1 Mu1 qu1 => ?_)
  refine r_astore C [(4, .ref q1), (0, .ref (ad 117)), (1, .int (nI a)), (2, .int x), (3, .ref (ad 145))] dL_joined_13 (by decide) rfl ?_
  refine r_iconst C (nI 1) dL_joined_15 (by decide) ?_
  exact E 1 _ _ _ _ (Nat.le_of_ble_eq_true rfl) dL_joined_16 (⟨rfl, qu1⟩)
set_option maxRecDepth 100000 in
set_option maxHeartbeats 4000000 in
theorem w_vertex (l : Launch) (D : va_G) (cs : Nat → ClassId) (ad : Nat → Nat) (M : Mm) (z : Nat → Int32) (n d : Nat) (hg : gv M 0 (gH 0) z n d) (hn8 : n ≤ 8) (hm : gm z n) (mk wt9 : Nat → Nat) (hk : gk z n mk) (hw9 : gw z n wt9) (hsy : gs z n) (hn1 : 1 ≤ n) (v w : Nat) (hv : v < n) (hw : w ≤ 5 ∨ (10 ≤ w ∧ w ≤ 13)) : ∀ sz : Nat, Met l yL_vertex (.codeWith yL_vertex cL_vertex 5 (some .int) [(0, 10, 13, 19), (0, 10, 17, 13)] :: TT) { frames := 43, cells := 0, slots := 6 * 0, locals := 1064 } (va_Pc [.ref (ad 117), .int (nI v), .int (nI w), .ref (ad 145)] (fun U9 => U9.heap.size = sz ∧ wB D cs ad (fA ad sz) M U9 ∧ xX (fA ad sz) U9 U9.heap)) (va_Qi (fun r M2 => r = nI 0 ∧ ∃ v9 M9, (fun r M2 => r = vnz z n v w ∧ lkP M M2) v9 M9 ∧ M2 = mJ M9 145 0 (v9.toInt64)) (wB D cs ad (fA ad sz)) (fA ad sz)) 0 (6 * 0) (fA ad sz) := by
  refine st_W (by decide) (Nat.le_of_ble_eq_true rfl) (fun κ C hN hT E => ?_)
  refine r_lv (lv2 := [(0, .ref (ad 117)), (1, .int (nI v)), (2, .int (nI w)), (3, .ref (ad 145))]) [0, 1, 2, 3] rfl ?_
  refine r_aload_n C dL_vertex_0 rfl 3 rfl ?_
  refine r_iconst C (nI 0) dL_vertex_1 (by decide) ?_
  refine r_aload_n C dL_vertex_2 rfl 0 rfl ?_
  refine r_iload_n C dL_vertex_3 rfl 1 rfl ?_
  refine r_iload_n C dL_vertex_4 rfl 2 rfl ?_
  refine r_ncallV_i (nA := 2) C hN (Nat.le_of_ble_eq_true rfl) [.int (nI v), .int (nI w)] (c_X7_vertex l D cs ad M z n d hg hn8 hm mk wt9 hk hw9 hsy hn1 v w hv hw) (tt_V ml_L_65 im_X7_vertex se_X7_vertex in_X7 co_X7_vertex) ⟨rfl, rfl⟩ ⟨rfl, by decide, by decide, by decide⟩ ⟨Nat.le_of_ble_eq_true rfl, Nat.le_of_ble_eq_true rfl⟩ (by decide) rfl rfl rfl rfl rfl (Nat.le_of_ble_eq_true rfl) dL_vertex_5 (fun r1 Mu1 qu1 => ?_)
  refine r_i2l C dL_vertex_8 ?_
  refine r_last C (id := 145) (n := 1) (a := 0) (by decide) (fun _ => rfl) (by decide) (by decide) dL_vertex_9 ?_
  refine r_goto C 21 dL_vertex_10 (by decide) ?_
  refine r_iconst C (nI 0) dL_vertex_21 (by decide) ?_
  exact E 0 _ _ _ _ (Nat.le_of_ble_eq_true rfl) dL_vertex_22 (⟨rfl, r1, Mu1, qu1, rfl⟩)
set_option maxRecDepth 100000 in
set_option maxHeartbeats 4000000 in
theorem w_vertexX (l : Launch) (D : va_G) (cs : Nat → ClassId) (ad : Nat → Nat) (hfl : l.stackTraces = false) (M : Mm) (z : Nat → Int32) (n d : Nat) (hg : gv M 0 (gH 0) z n d) (hn8 : n ≤ 8) (hn1 : 1 ≤ n) (x y : Int32) (hbad : wit x (nI 0) (nI n - nI 1) = false) : ∀ sz : Nat, Met l yL_vertex (.codeWith yL_vertex cL_vertex 5 (some .int) [(0, 10, 13, 19), (0, 10, 17, 13)] :: TT) { frames := 8, cells := 1, slots := 6 * 1, locals := 135 } (va_Pc [.ref (ad 117), .int x, .int y, .ref (ad 145)] (fun U9 => U9.heap.size = sz ∧ wB D cs ad (fA ad sz) M U9 ∧ xX (fA ad sz) U9 U9.heap)) (va_Qi (fun r M2 => r = nI 1 ∧ (fun M2 => M2 = M) M2) (wB D cs ad (fA ad sz)) (fA ad sz)) 1 (6 * 1) (fA ad sz) := by
  refine st_W (by decide) (Nat.le_of_ble_eq_true rfl) (fun κ C hN hT E => ?_)
  refine r_lv (lv2 := [(0, .ref (ad 117)), (1, .int x), (2, .int y), (3, .ref (ad 145))]) [0, 1, 2, 3] rfl ?_
  refine r_aload_n C dL_vertex_0 rfl 3 rfl ?_
  refine r_iconst C (nI 0) dL_vertex_1 (by decide) ?_
  refine r_aload_n C dL_vertex_2 rfl 0 rfl ?_
  refine r_iload_n C dL_vertex_3 rfl 1 rfl ?_
  refine r_iload_n C dL_vertex_4 rfl 2 rfl ?_
  refine r_catch_i (nA := 2) C hN hT (Nat.le_of_ble_eq_true rfl) [.int x, .int y] (c_X7_vertexX l D cs ad hfl M z n d hg hn8 hn1 x y hbad) (tt_V ml_L_65 im_X7_vertex se_X7_vertex in_X7 co_X7_vertex) ⟨rfl, rfl⟩ ⟨rfl, by decide, by decide, by decide⟩ ⟨Nat.le_of_ble_eq_true rfl, Nat.le_of_ble_eq_true rfl⟩ (by decide) rfl rfl rfl rfl rfl (Nat.le_of_ble_eq_true rfl) dL_vertex_5 [] ⟨0, 10, 13, 19⟩ [⟨0, 10, 17, 13⟩] rfl (fun _ hz => absurd hz List.not_mem_nil) (by decide) (by decide) cl_L_19 (by decide +kernel) (fun q1 Mu1 qu1 => ?_)
  refine r_astore C [(4, .ref q1), (0, .ref (ad 117)), (1, .int x), (2, .int y), (3, .ref (ad 145))] dL_vertex_13 (by decide) rfl ?_
  refine r_iconst C (nI 1) dL_vertex_15 (by decide) ?_
  exact E 1 _ _ _ _ (Nat.le_of_ble_eq_true rfl) dL_vertex_16 (⟨rfl, qu1⟩)
set_option maxRecDepth 100000 in
set_option maxHeartbeats 4000000 in
theorem w_vertexY (l : Launch) (D : va_G) (cs : Nat → ClassId) (ad : Nat → Nat) (hfl : l.stackTraces = false) (M : Mm) (z : Nat → Int32) (n d : Nat) (hg : gv M 0 (gH 0) z n d) (hn8 : n ≤ 8) (v : Nat) (hv : v < n) (y : Int32) (hb1 : wit y (nI 0) (nI 5) = false) (hb2 : wit y (nI 10) (nI 13) = false) : ∀ sz : Nat, Met l yL_vertex (.codeWith yL_vertex cL_vertex 5 (some .int) [(0, 10, 13, 19), (0, 10, 17, 13)] :: TT) { frames := 7, cells := 1, slots := 6 * 1, locals := 114 } (va_Pc [.ref (ad 117), .int (nI v), .int y, .ref (ad 145)] (fun U9 => U9.heap.size = sz ∧ wB D cs ad (fA ad sz) M U9 ∧ xX (fA ad sz) U9 U9.heap)) (va_Qi (fun r M2 => r = nI 2 ∧ (fun M2 => M2 = M) M2) (wB D cs ad (fA ad sz)) (fA ad sz)) 1 (6 * 1) (fA ad sz) := by
  refine st_W (by decide) (Nat.le_of_ble_eq_true rfl) (fun κ C hN hT E => ?_)
  refine r_lv (lv2 := [(0, .ref (ad 117)), (1, .int (nI v)), (2, .int y), (3, .ref (ad 145))]) [0, 1, 2, 3] rfl ?_
  refine r_aload_n C dL_vertex_0 rfl 3 rfl ?_
  refine r_iconst C (nI 0) dL_vertex_1 (by decide) ?_
  refine r_aload_n C dL_vertex_2 rfl 0 rfl ?_
  refine r_iload_n C dL_vertex_3 rfl 1 rfl ?_
  refine r_iload_n C dL_vertex_4 rfl 2 rfl ?_
  refine r_catch_i (nA := 2) C hN hT (Nat.le_of_ble_eq_true rfl) [.int (nI v), .int y] (c_X7_vertexY l D cs ad hfl M z n d hg hn8 v hv y hb1 hb2) (tt_V ml_L_65 im_X7_vertex se_X7_vertex in_X7 co_X7_vertex) ⟨rfl, rfl⟩ ⟨rfl, by decide, by decide, by decide⟩ ⟨Nat.le_of_ble_eq_true rfl, Nat.le_of_ble_eq_true rfl⟩ (by decide) rfl rfl rfl rfl rfl (Nat.le_of_ble_eq_true rfl) dL_vertex_5 [⟨0, 10, 13, 19⟩] ⟨0, 10, 17, 13⟩ [] rfl (fun z hz => by rcases List.mem_singleton.mp hz with rfl; exact ⟨by decide, _, cl_L_19, by decide +kernel⟩) (by decide) (by decide) cl_L_13 (by decide +kernel) (fun q1 Mu1 qu1 => ?_)
  refine r_astore C [(4, .ref q1), (0, .ref (ad 117)), (1, .int (nI v)), (2, .int y), (3, .ref (ad 145))] dL_vertex_17 (by decide) rfl ?_
  refine r_iconst C (nI 2) dL_vertex_19 (by decide) ?_
  exact E 1 _ _ _ _ (Nat.le_of_ble_eq_true rfl) dL_vertex_20 (⟨rfl, qu1⟩)
set_option maxRecDepth 100000 in
set_option maxHeartbeats 4000000 in
theorem w_handle (l : Launch) (D : va_G) (cs : Nat → ClassId) (ad : Nat → Nat) (M : Mm) (z : Nat → Int32) (n d : Nat) (hg : gv M 0 (gH 0) z n d) (hn8 : n ≤ 8) (hd4 : d ≤ 4) (p : Nat) (hp : p < d) : ∀ sz : Nat, Met l yL_handle (.codeWith yL_handle cL_handle 4 (some .int) [(0, 9, 12, 19)] :: TT) { frames := 2, cells := 0, slots := 6 * 0, locals := 42 } (va_Pc [.ref (ad 117), .int (nI p), .ref (ad 145)] (fun U9 => U9.heap.size = sz ∧ wB D cs ad (fA ad sz) M U9 ∧ xX (fA ad sz) U9 U9.heap)) (va_Qi (fun r M2 => r = nI 0 ∧ ∃ v9 M9, (fun r M2 => r = z (50 + p) ∧ M2 = M) v9 M9 ∧ M2 = mJ M9 145 0 (v9.toInt64)) (wB D cs ad (fA ad sz)) (fA ad sz)) 0 (6 * 0) (fA ad sz) := by
  refine st_W (by decide) (Nat.le_of_ble_eq_true rfl) (fun κ C hN hT E => ?_)
  refine r_lv (lv2 := [(0, .ref (ad 117)), (1, .int (nI p)), (2, .ref (ad 145))]) [0, 1, 2] rfl ?_
  refine r_aload_n C dL_handle_0 rfl 2 rfl ?_
  refine r_iconst C (nI 0) dL_handle_1 (by decide) ?_
  refine r_aload_n C dL_handle_2 rfl 0 rfl ?_
  refine r_iload_n C dL_handle_3 rfl 1 rfl ?_
  refine r_ncallV_i (nA := 1) C hN (Nat.le_of_ble_eq_true rfl) [.int (nI p)] (c_X7_handle l D cs ad M z n d hg hn8 hd4 p hp) (tt_V ml_L_68 im_X7_handle se_X7_handle in_X7 co_X7_handle) ⟨rfl, rfl⟩ ⟨rfl, by decide, by decide, by decide⟩ ⟨Nat.le_of_ble_eq_true rfl, Nat.le_of_ble_eq_true rfl⟩ (by decide) rfl rfl rfl rfl rfl (Nat.le_of_ble_eq_true rfl) dL_handle_4 (fun r1 Mu1 qu1 => ?_)
  refine r_i2l C dL_handle_7 ?_
  refine r_last C (id := 145) (n := 1) (a := 0) (by decide) (fun _ => rfl) (by decide) (by decide) dL_handle_8 ?_
  refine r_goto C 15 dL_handle_9 (by decide) ?_
  refine r_iconst C (nI 0) dL_handle_15 (by decide) ?_
  exact E 0 _ _ _ _ (Nat.le_of_ble_eq_true rfl) dL_handle_16 (⟨rfl, r1, Mu1, qu1, rfl⟩)
set_option maxRecDepth 100000 in
set_option maxHeartbeats 4000000 in
theorem w_handleX (l : Launch) (D : va_G) (cs : Nat → ClassId) (ad : Nat → Nat) (hfl : l.stackTraces = false) (M : Mm) (z : Nat → Int32) (n d : Nat) (hg : gv M 0 (gH 0) z n d) (hn8 : n ≤ 8) (hd4 : d ≤ 4) (hd1 : 1 ≤ d) (x : Int32) (hbad : wit x (nI 0) (nI d - nI 1) = false) : ∀ sz : Nat, Met l yL_handle (.codeWith yL_handle cL_handle 4 (some .int) [(0, 9, 12, 19)] :: TT) { frames := 8, cells := 1, slots := 6 * 1, locals := 134 } (va_Pc [.ref (ad 117), .int x, .ref (ad 145)] (fun U9 => U9.heap.size = sz ∧ wB D cs ad (fA ad sz) M U9 ∧ xX (fA ad sz) U9 U9.heap)) (va_Qi (fun r M2 => r = nI 1 ∧ (fun M2 => M2 = M) M2) (wB D cs ad (fA ad sz)) (fA ad sz)) 1 (6 * 1) (fA ad sz) := by
  refine st_W (by decide) (Nat.le_of_ble_eq_true rfl) (fun κ C hN hT E => ?_)
  refine r_lv (lv2 := [(0, .ref (ad 117)), (1, .int x), (2, .ref (ad 145))]) [0, 1, 2] rfl ?_
  refine r_aload_n C dL_handle_0 rfl 2 rfl ?_
  refine r_iconst C (nI 0) dL_handle_1 (by decide) ?_
  refine r_aload_n C dL_handle_2 rfl 0 rfl ?_
  refine r_iload_n C dL_handle_3 rfl 1 rfl ?_
  refine r_catch_i (nA := 1) C hN hT (Nat.le_of_ble_eq_true rfl) [.int x] (c_X7_handleX l D cs ad hfl M z n d hg hn8 hd4 hd1 x hbad) (tt_V ml_L_68 im_X7_handle se_X7_handle in_X7 co_X7_handle) ⟨rfl, rfl⟩ ⟨rfl, by decide, by decide, by decide⟩ ⟨Nat.le_of_ble_eq_true rfl, Nat.le_of_ble_eq_true rfl⟩ (by decide) rfl rfl rfl rfl rfl (Nat.le_of_ble_eq_true rfl) dL_handle_4 [] ⟨0, 9, 12, 19⟩ [] rfl (fun _ hz => absurd hz List.not_mem_nil) (by decide) (by decide) cl_L_19 (by decide +kernel) (fun q1 Mu1 qu1 => ?_)
  refine r_astore_n C [(3, .ref q1), (0, .ref (ad 117)), (1, .int x), (2, .ref (ad 145))] dL_handle_12 rfl (by decide) rfl ?_
  refine r_iconst C (nI 1) dL_handle_13 (by decide) ?_
  exact E 1 _ _ _ _ (Nat.le_of_ble_eq_true rfl) dL_handle_14 (⟨rfl, qu1⟩)
set_option maxRecDepth 100000 in
set_option maxHeartbeats 4000000 in
theorem w_bound (l : Launch) (D : va_G) (cs : Nat → ClassId) (ad : Nat → Nat) (M : Mm) (z : Nat → Int32) (n d : Nat) (hg : gv M 0 (gH 0) z n d) (hn8 : n ≤ 8) (hm : gm z n) (mk : Nat → Nat) (hk : gk z n mk) (wt U S : Nat → Nat) (H : Nat) (hBr : rsz z n = nI 0 → bnH z n wt U S H) (hpo : rsz z n = nI 0 → hpos n wt U H) (p : Nat) (hp : p ≤ 2) : ∀ sz : Nat, Met l yL_bound (.codeWith yL_bound cL_bound 4 (some .int) [(0, 8, 11, 13)] :: TT) { frames := 6, cells := 0, slots := 6 * 0, locals := 130 } (va_Pc [.ref (ad 117), .int (nI p), .ref (ad 145)] (fun U9 => U9.heap.size = sz ∧ wB D cs ad (fA ad sz) M U9 ∧ xX (fA ad sz) U9 U9.heap)) (va_Qi (fun r M2 => r = nI 0 ∧ ∃ v9 M9, (fun r M2 => r = bdz z n wt U S H p ∧ lkP M M2) v9 M9 ∧ M2 = mJ M9 145 0 (v9)) (wB D cs ad (fA ad sz)) (fA ad sz)) 0 (6 * 0) (fA ad sz) := by
  refine st_W (by decide) (Nat.le_of_ble_eq_true rfl) (fun κ C hN hT E => ?_)
  refine r_lv (lv2 := [(0, .ref (ad 117)), (1, .int (nI p)), (2, .ref (ad 145))]) [0, 1, 2] rfl ?_
  refine r_aload_n C dL_bound_0 rfl 2 rfl ?_
  refine r_iconst C (nI 0) dL_bound_1 (by decide) ?_
  refine r_aload_n C dL_bound_2 rfl 0 rfl ?_
  refine r_iload_n C dL_bound_3 rfl 1 rfl ?_
  refine r_ncallV_l (nA := 1) C hN (Nat.le_of_ble_eq_true rfl) [.int (nI p)] (c_X7_bound l D cs ad M z n d hg hn8 hm mk hk wt U S H hBr hpo p hp) (tt_V ml_L_71 im_X7_bound se_X7_bound in_X7 co_X7_bound) ⟨rfl, rfl⟩ ⟨rfl, by decide, by decide, by decide⟩ ⟨Nat.le_of_ble_eq_true rfl, Nat.le_of_ble_eq_true rfl⟩ (by decide) rfl rfl rfl rfl rfl (Nat.le_of_ble_eq_true rfl) dL_bound_4 (fun r1 Mu1 qu1 => ?_)
  refine r_last C (id := 145) (n := 1) (a := 0) (by decide) (fun _ => rfl) (by decide) (by decide) dL_bound_7 ?_
  refine r_goto C 14 dL_bound_8 (by decide) ?_
  refine r_iconst C (nI 0) dL_bound_14 (by decide) ?_
  exact E 0 _ _ _ _ (Nat.le_of_ble_eq_true rfl) dL_bound_15 (⟨rfl, r1, Mu1, qu1, rfl⟩)
set_option maxRecDepth 100000 in
set_option maxHeartbeats 4000000 in
theorem w_boundX (l : Launch) (D : va_G) (cs : Nat → ClassId) (ad : Nat → Nat) (hfl : l.stackTraces = false) (M : Mm) (x : Int32) (hbad : wit x (nI 0) (nI 2) = false) : ∀ sz : Nat, Met l yL_bound (.codeWith yL_bound cL_bound 4 (some .int) [(0, 8, 11, 13)] :: TT) { frames := 8, cells := 1, slots := 6 * 1, locals := 133 } (va_Pc [.ref (ad 117), .int x, .ref (ad 145)] (fun U9 => U9.heap.size = sz ∧ wB D cs ad (fA ad sz) M U9 ∧ xX (fA ad sz) U9 U9.heap)) (va_Qi (fun r M2 => r = nI 1 ∧ (fun M2 => M2 = M) M2) (wB D cs ad (fA ad sz)) (fA ad sz)) 1 (6 * 1) (fA ad sz) := by
  refine st_W (by decide) (Nat.le_of_ble_eq_true rfl) (fun κ C hN hT E => ?_)
  refine r_lv (lv2 := [(0, .ref (ad 117)), (1, .int x), (2, .ref (ad 145))]) [0, 1, 2] rfl ?_
  refine r_aload_n C dL_bound_0 rfl 2 rfl ?_
  refine r_iconst C (nI 0) dL_bound_1 (by decide) ?_
  refine r_aload_n C dL_bound_2 rfl 0 rfl ?_
  refine r_iload_n C dL_bound_3 rfl 1 rfl ?_
  refine r_catch_l (nA := 1) C hN hT (Nat.le_of_ble_eq_true rfl) [.int x] (c_X7_boundX l D cs ad hfl M x hbad) (tt_V ml_L_71 im_X7_bound se_X7_bound in_X7 co_X7_bound) ⟨rfl, rfl⟩ ⟨rfl, by decide, by decide, by decide⟩ ⟨Nat.le_of_ble_eq_true rfl, Nat.le_of_ble_eq_true rfl⟩ (by decide) rfl rfl rfl rfl rfl (Nat.le_of_ble_eq_true rfl) dL_bound_4 [] ⟨0, 8, 11, 13⟩ [] rfl (fun _ hz => absurd hz List.not_mem_nil) (by decide) (by decide) cl_L_13 (by decide +kernel) (fun q1 Mu1 qu1 => ?_)
  refine r_astore_n C [(3, .ref q1), (0, .ref (ad 117)), (1, .int x), (2, .ref (ad 145))] dL_bound_11 rfl (by decide) rfl ?_
  refine r_iconst C (nI 1) dL_bound_12 (by decide) ?_
  exact E 1 _ _ _ _ (Nat.le_of_ble_eq_true rfl) dL_bound_13 (⟨rfl, qu1⟩)
set_option maxRecDepth 100000 in
set_option maxHeartbeats 4000000 in
theorem w_whyNot (l : Launch) (D : va_G) (cs : Nat → ClassId) (ad : Nat → Nat) (M : Mm) (z : Nat → Int32) (n d : Nat) (hg : gv M 0 (gH 0) z n d) (hn8 : n ≤ 8) (hm : gm z n) (mk : Nat → Nat) (hk : gk z n mk) (p : Nat) (hp : p ≤ 2) : ∀ sz : Nat, Met l yL_whyNot (.codeWith yL_whyNot cL_whyNot 4 (some .int) [(0, 9, 12, 13)] :: TT) { frames := 6, cells := 0, slots := 6 * 0, locals := 132 } (va_Pc [.ref (ad 117), .int (nI p), .ref (ad 145)] (fun U9 => U9.heap.size = sz ∧ wB D cs ad (fA ad sz) M U9 ∧ xX (fA ad sz) U9 U9.heap)) (va_Qi (fun r M2 => r = nI 0 ∧ ∃ v9 M9, (fun r M2 => r = rnz z n p ∧ M2 = M) v9 M9 ∧ M2 = mJ M9 145 0 (v9.toInt64)) (wB D cs ad (fA ad sz)) (fA ad sz)) 0 (6 * 0) (fA ad sz) := by
  refine st_W (by decide) (Nat.le_of_ble_eq_true rfl) (fun κ C hN hT E => ?_)
  refine r_lv (lv2 := [(0, .ref (ad 117)), (1, .int (nI p)), (2, .ref (ad 145))]) [0, 1, 2] rfl ?_
  refine r_aload_n C dL_whyNot_0 rfl 2 rfl ?_
  refine r_iconst C (nI 0) dL_whyNot_1 (by decide) ?_
  refine r_aload_n C dL_whyNot_2 rfl 0 rfl ?_
  refine r_iload_n C dL_whyNot_3 rfl 1 rfl ?_
  refine r_ncallV_i (nA := 1) C hN (Nat.le_of_ble_eq_true rfl) [.int (nI p)] (c_X7_whyNot l D cs ad M z n d hg hn8 hm mk hk p hp) (tt_V ml_L_75 im_X7_whyNot se_X7_whyNot in_X7 co_X7_whyNot) ⟨rfl, rfl⟩ ⟨rfl, by decide, by decide, by decide⟩ ⟨Nat.le_of_ble_eq_true rfl, Nat.le_of_ble_eq_true rfl⟩ (by decide) rfl rfl rfl rfl rfl (Nat.le_of_ble_eq_true rfl) dL_whyNot_4 (fun r1 Mu1 qu1 => ?_)
  refine r_i2l C dL_whyNot_7 ?_
  refine r_last C (id := 145) (n := 1) (a := 0) (by decide) (fun _ => rfl) (by decide) (by decide) dL_whyNot_8 ?_
  refine r_goto C 15 dL_whyNot_9 (by decide) ?_
  refine r_iconst C (nI 0) dL_whyNot_15 (by decide) ?_
  exact E 0 _ _ _ _ (Nat.le_of_ble_eq_true rfl) dL_whyNot_16 (⟨rfl, r1, Mu1, qu1, rfl⟩)
set_option maxRecDepth 100000 in
set_option maxHeartbeats 4000000 in
theorem w_whyNotX (l : Launch) (D : va_G) (cs : Nat → ClassId) (ad : Nat → Nat) (hfl : l.stackTraces = false) (M : Mm) (x : Int32) (hbad : wit x (nI 0) (nI 2) = false) : ∀ sz : Nat, Met l yL_whyNot (.codeWith yL_whyNot cL_whyNot 4 (some .int) [(0, 9, 12, 13)] :: TT) { frames := 8, cells := 1, slots := 6 * 1, locals := 133 } (va_Pc [.ref (ad 117), .int x, .ref (ad 145)] (fun U9 => U9.heap.size = sz ∧ wB D cs ad (fA ad sz) M U9 ∧ xX (fA ad sz) U9 U9.heap)) (va_Qi (fun r M2 => r = nI 1 ∧ (fun M2 => M2 = M) M2) (wB D cs ad (fA ad sz)) (fA ad sz)) 1 (6 * 1) (fA ad sz) := by
  refine st_W (by decide) (Nat.le_of_ble_eq_true rfl) (fun κ C hN hT E => ?_)
  refine r_lv (lv2 := [(0, .ref (ad 117)), (1, .int x), (2, .ref (ad 145))]) [0, 1, 2] rfl ?_
  refine r_aload_n C dL_whyNot_0 rfl 2 rfl ?_
  refine r_iconst C (nI 0) dL_whyNot_1 (by decide) ?_
  refine r_aload_n C dL_whyNot_2 rfl 0 rfl ?_
  refine r_iload_n C dL_whyNot_3 rfl 1 rfl ?_
  refine r_catch_i (nA := 1) C hN hT (Nat.le_of_ble_eq_true rfl) [.int x] (c_X7_whyNotX l D cs ad hfl M x hbad) (tt_V ml_L_75 im_X7_whyNot se_X7_whyNot in_X7 co_X7_whyNot) ⟨rfl, rfl⟩ ⟨rfl, by decide, by decide, by decide⟩ ⟨Nat.le_of_ble_eq_true rfl, Nat.le_of_ble_eq_true rfl⟩ (by decide) rfl rfl rfl rfl rfl (Nat.le_of_ble_eq_true rfl) dL_whyNot_4 [] ⟨0, 9, 12, 13⟩ [] rfl (fun _ hz => absurd hz List.not_mem_nil) (by decide) (by decide) cl_L_13 (by decide +kernel) (fun q1 Mu1 qu1 => ?_)
  refine r_astore_n C [(3, .ref q1), (0, .ref (ad 117)), (1, .int x), (2, .ref (ad 145))] dL_whyNot_12 rfl (by decide) rfl ?_
  refine r_iconst C (nI 1) dL_whyNot_13 (by decide) ?_
  exact E 1 _ _ _ _ (Nat.le_of_ble_eq_true rfl) dL_whyNot_14 (⟨rfl, qu1⟩)
set_option maxRecDepth 100000 in
set_option maxHeartbeats 4000000 in
theorem w_whyNotMultiply (l : Launch) (D : va_G) (cs : Nat → ClassId) (ad : Nat → Nat) (M : Mm) (z : Nat → Int32) (n d : Nat) (hg : gv M 0 (gH 0) z n d) (hn8 : n ≤ 8) (q : Nat) (hq : q ≤ 1) (ht : M.1 119 q = nI 1) (y : Nat → Int32) (n2 d2 : Nat) (hy : gv M (1 + q) (gH (1 + q)) y n2 d2) (hn28 : n2 ≤ 8) (hd4 : d ≤ 4) (hd24 : d2 ≤ 4) (N9 dd : Nat) (hNN : n * n2 = N9) (hdd : d * d2 = dd) : ∀ sz : Nat, Met l yL_whyNotMultiply (.codeWith yL_whyNotMultiply cL_whyNotMultiply 4 (some .int) [(0, 9, 12, 19), (0, 9, 15, 28)] :: TT) { frames := 5, cells := 0, slots := 6 * 0, locals := 107 } (va_Pc [.ref (ad 117), .int (nI q), .ref (ad 145)] (fun U9 => U9.heap.size = sz ∧ wB D cs ad (fA ad sz) M U9 ∧ xX (fA ad sz) U9 U9.heap)) (va_Qi (fun r M2 => r = nI 0 ∧ ∃ v9 M9, (fun r M2 => r = rzI z y n n2 N9 dd ∧ M2 = M) v9 M9 ∧ M2 = mJ M9 145 0 (v9.toInt64)) (wB D cs ad (fA ad sz)) (fA ad sz)) 0 (6 * 0) (fA ad sz) := by
  refine st_W (by decide) (Nat.le_of_ble_eq_true rfl) (fun κ C hN hT E => ?_)
  refine r_lv (lv2 := [(0, .ref (ad 117)), (1, .int (nI q)), (2, .ref (ad 145))]) [0, 1, 2] rfl ?_
  refine r_aload_n C dL_whyNotMultiply_0 rfl 2 rfl ?_
  refine r_iconst C (nI 0) dL_whyNotMultiply_1 (by decide) ?_
  refine r_aload_n C dL_whyNotMultiply_2 rfl 0 rfl ?_
  refine r_iload_n C dL_whyNotMultiply_3 rfl 1 rfl ?_
  refine r_ncallV_i (nA := 1) C hN (Nat.le_of_ble_eq_true rfl) [.int (nI q)] (c_X7_whyNotMultiply l D cs ad M z n d hg hn8 q hq ht y n2 d2 hy hn28 hd4 hd24 N9 dd hNN hdd) (tt_V ml_L_78 im_X7_whyNotMultiply se_X7_whyNotMultiply in_X7 co_X7_whyNotMultiply) ⟨rfl, rfl⟩ ⟨rfl, by decide, by decide, by decide⟩ ⟨Nat.le_of_ble_eq_true rfl, Nat.le_of_ble_eq_true rfl⟩ (by decide) rfl rfl rfl rfl rfl (Nat.le_of_ble_eq_true rfl) dL_whyNotMultiply_4 (fun r1 Mu1 qu1 => ?_)
  refine r_i2l C dL_whyNotMultiply_7 ?_
  refine r_last C (id := 145) (n := 1) (a := 0) (by decide) (fun _ => rfl) (by decide) (by decide) dL_whyNotMultiply_8 ?_
  refine r_goto C 18 dL_whyNotMultiply_9 (by decide) ?_
  refine r_iconst C (nI 0) dL_whyNotMultiply_18 (by decide) ?_
  exact E 0 _ _ _ _ (Nat.le_of_ble_eq_true rfl) dL_whyNotMultiply_19 (⟨rfl, r1, Mu1, qu1, rfl⟩)
set_option maxRecDepth 100000 in
set_option maxHeartbeats 4000000 in
theorem w_whyNotMultiplyX (l : Launch) (D : va_G) (cs : Nat → ClassId) (ad : Nat → Nat) (hfl : l.stackTraces = false) (M : Mm) (x : Int32) (hbad : wit x (nI 0) (nI 1) = false) : ∀ sz : Nat, Met l yL_whyNotMultiply (.codeWith yL_whyNotMultiply cL_whyNotMultiply 4 (some .int) [(0, 9, 12, 19), (0, 9, 15, 28)] :: TT) { frames := 9, cells := 1, slots := 6 * 1, locals := 155 } (va_Pc [.ref (ad 117), .int x, .ref (ad 145)] (fun U9 => U9.heap.size = sz ∧ wB D cs ad (fA ad sz) M U9 ∧ xX (fA ad sz) U9 U9.heap)) (va_Qi (fun r M2 => r = nI 1 ∧ (fun M2 => M2 = M) M2) (wB D cs ad (fA ad sz)) (fA ad sz)) 1 (6 * 1) (fA ad sz) := by
  refine st_W (by decide) (Nat.le_of_ble_eq_true rfl) (fun κ C hN hT E => ?_)
  refine r_lv (lv2 := [(0, .ref (ad 117)), (1, .int x), (2, .ref (ad 145))]) [0, 1, 2] rfl ?_
  refine r_aload_n C dL_whyNotMultiply_0 rfl 2 rfl ?_
  refine r_iconst C (nI 0) dL_whyNotMultiply_1 (by decide) ?_
  refine r_aload_n C dL_whyNotMultiply_2 rfl 0 rfl ?_
  refine r_iload_n C dL_whyNotMultiply_3 rfl 1 rfl ?_
  refine r_catch_i (nA := 1) C hN hT (Nat.le_of_ble_eq_true rfl) [.int x] (c_X7_whyNotMultiplyX l D cs ad hfl M x hbad) (tt_V ml_L_78 im_X7_whyNotMultiply se_X7_whyNotMultiply in_X7 co_X7_whyNotMultiply) ⟨rfl, rfl⟩ ⟨rfl, by decide, by decide, by decide⟩ ⟨Nat.le_of_ble_eq_true rfl, Nat.le_of_ble_eq_true rfl⟩ (by decide) rfl rfl rfl rfl rfl (Nat.le_of_ble_eq_true rfl) dL_whyNotMultiply_4 [] ⟨0, 9, 12, 19⟩ [⟨0, 9, 15, 28⟩] rfl (fun _ hz => absurd hz List.not_mem_nil) (by decide) (by decide) cl_L_19 (by decide +kernel) (fun q1 Mu1 qu1 => ?_)
  refine r_astore_n C [(3, .ref q1), (0, .ref (ad 117)), (1, .int x), (2, .ref (ad 145))] dL_whyNotMultiply_12 rfl (by decide) rfl ?_
  refine r_iconst C (nI 1) dL_whyNotMultiply_13 (by decide) ?_
  exact E 1 _ _ _ _ (Nat.le_of_ble_eq_true rfl) dL_whyNotMultiply_14 (⟨rfl, qu1⟩)
set_option maxRecDepth 100000 in
set_option maxHeartbeats 4000000 in
theorem w_whyNotMultiplyF (l : Launch) (D : va_G) (cs : Nat → ClassId) (ad : Nat → Nat) (hfl : l.stackTraces = false) (M : Mm) (q : Nat) (hq : q ≤ 1) (ht : M.1 119 q = nI 0) : ∀ sz : Nat, Met l yL_whyNotMultiply (.codeWith yL_whyNotMultiply cL_whyNotMultiply 4 (some .int) [(0, 9, 12, 19), (0, 9, 15, 28)] :: TT) { frames := 8, cells := 1, slots := 6 * 1, locals := 134 } (va_Pc [.ref (ad 117), .int (nI q), .ref (ad 145)] (fun U9 => U9.heap.size = sz ∧ wB D cs ad (fA ad sz) M U9 ∧ xX (fA ad sz) U9 U9.heap)) (va_Qi (fun r M2 => r = nI 2 ∧ (fun M2 => M2 = M) M2) (wB D cs ad (fA ad sz)) (fA ad sz)) 1 (6 * 1) (fA ad sz) := by
  refine st_W (by decide) (Nat.le_of_ble_eq_true rfl) (fun κ C hN hT E => ?_)
  refine r_lv (lv2 := [(0, .ref (ad 117)), (1, .int (nI q)), (2, .ref (ad 145))]) [0, 1, 2] rfl ?_
  refine r_aload_n C dL_whyNotMultiply_0 rfl 2 rfl ?_
  refine r_iconst C (nI 0) dL_whyNotMultiply_1 (by decide) ?_
  refine r_aload_n C dL_whyNotMultiply_2 rfl 0 rfl ?_
  refine r_iload_n C dL_whyNotMultiply_3 rfl 1 rfl ?_
  refine r_catch_i (nA := 1) C hN hT (Nat.le_of_ble_eq_true rfl) [.int (nI q)] (c_X7_whyNotMultiplyF l D cs ad hfl M q hq ht) (tt_V ml_L_78 im_X7_whyNotMultiply se_X7_whyNotMultiply in_X7 co_X7_whyNotMultiply) ⟨rfl, rfl⟩ ⟨rfl, by decide, by decide, by decide⟩ ⟨Nat.le_of_ble_eq_true rfl, Nat.le_of_ble_eq_true rfl⟩ (by decide) rfl rfl rfl rfl rfl (Nat.le_of_ble_eq_true rfl) dL_whyNotMultiply_4 [⟨0, 9, 12, 19⟩] ⟨0, 9, 15, 28⟩ [] rfl (fun z hz => by rcases List.mem_singleton.mp hz with rfl; exact ⟨by decide, _, cl_L_19, by decide +kernel⟩) (by decide) (by decide) cl_L_28 (by decide +kernel) (fun q1 Mu1 qu1 => ?_)
  refine r_astore_n C [(3, .ref q1), (0, .ref (ad 117)), (1, .int (nI q)), (2, .ref (ad 145))] dL_whyNotMultiply_15 rfl (by decide) rfl ?_
  refine r_iconst C (nI 2) dL_whyNotMultiply_16 (by decide) ?_
  exact E 1 _ _ _ _ (Nat.le_of_ble_eq_true rfl) dL_whyNotMultiply_17 (⟨rfl, qu1⟩)
set_option maxRecDepth 100000 in
set_option maxHeartbeats 4000000 in
theorem w_bestHandle (l : Launch) (D : va_G) (cs : Nat → ClassId) (ad : Nat → Nat) (M : Mm) (z : Nat → Int32) (n d : Nat) (hg : gv M 0 (gH 0) z n d) (hn8 : n ≤ 8) (hm : gm z n) (hd4 : d ≤ 4) (size bb : Nat) (hbb : 2 * size + 1 = bb) (hs1 : 1 ≤ size) (hs2 : size ≤ 2) (mk : Nat → Nat) (hk : gk z n mk) (hz0 : ∀ p, d ≤ p → p < 4 → z (50 + p) = nI 0) (wt U : Nat → Nat) (S : Nat → Nat → Nat) (H : Nat → Nat) (hBB : lbHyp z n d bb size wt U S H) (hpB : ∀ c, c < bb ^ d → upR (hnR z d c bb size d) n = -1 → hpos n wt U (H c)) (w : Nat) (hw : w ≤ 1 ∨ (10 ≤ w ∧ w ≤ 13)) : ∀ sz : Nat, Met l yL_bestHandle (.codeWith yL_bestHandle cL_bestHandle 5 (some .int) [(0, 9, 12, 13)] :: TT) { frames := 6, cells := 0, slots := 6 * 0, locals := 134 } (va_Pc [.ref (ad 117), .int (nI size), .int (nI w), .ref (ad 145)] (fun U9 => U9.heap.size = sz ∧ wB D cs ad (fA ad sz) M U9 ∧ xX (fA ad sz) U9 U9.heap)) (va_Qi (fun r M2 => r = nI 0 ∧ ∃ v9 M9, (fun r M2 => r = bhz z n d bb size wt U S H w ∧ lkP M M2) v9 M9 ∧ M2 = mJ M9 145 0 (v9)) (wB D cs ad (fA ad sz)) (fA ad sz)) 0 (6 * 0) (fA ad sz) := by
  refine st_W (by decide) (Nat.le_of_ble_eq_true rfl) (fun κ C hN hT E => ?_)
  refine r_lv (lv2 := [(0, .ref (ad 117)), (1, .int (nI size)), (2, .int (nI w)), (3, .ref (ad 145))]) [0, 1, 2, 3] rfl ?_
  refine r_aload_n C dL_bestHandle_0 rfl 3 rfl ?_
  refine r_iconst C (nI 0) dL_bestHandle_1 (by decide) ?_
  refine r_aload_n C dL_bestHandle_2 rfl 0 rfl ?_
  refine r_iload_n C dL_bestHandle_3 rfl 1 rfl ?_
  refine r_iload_n C dL_bestHandle_4 rfl 2 rfl ?_
  refine r_ncallV_l (nA := 2) C hN (Nat.le_of_ble_eq_true rfl) [.int (nI size), .int (nI w)] (c_X7_bestHandle l D cs ad M z n d hg hn8 hm hd4 size bb hbb hs1 hs2 mk hk hz0 wt U S H hBB hpB w hw) (tt_V ml_L_81 im_X7_bestHandle se_X7_bestHandle in_X7 co_X7_bestHandle) ⟨rfl, rfl⟩ ⟨rfl, by decide, by decide, by decide⟩ ⟨Nat.le_of_ble_eq_true rfl, Nat.le_of_ble_eq_true rfl⟩ (by decide) rfl rfl rfl rfl rfl (Nat.le_of_ble_eq_true rfl) dL_bestHandle_5 (fun r1 Mu1 qu1 => ?_)
  refine r_last C (id := 145) (n := 1) (a := 0) (by decide) (fun _ => rfl) (by decide) (by decide) dL_bestHandle_8 ?_
  refine r_goto C 16 dL_bestHandle_9 (by decide) ?_
  refine r_iconst C (nI 0) dL_bestHandle_16 (by decide) ?_
  exact E 0 _ _ _ _ (Nat.le_of_ble_eq_true rfl) dL_bestHandle_17 (⟨rfl, r1, Mu1, qu1, rfl⟩)
set_option maxRecDepth 100000 in
set_option maxHeartbeats 4000000 in
theorem w_bestHandleX1 (l : Launch) (D : va_G) (cs : Nat → ClassId) (ad : Nat → Nat) (hfl : l.stackTraces = false) (M : Mm) (x y : Int32) (hbad : wit x (nI 1) (nI 2) = false) : ∀ sz : Nat, Met l yL_bestHandle (.codeWith yL_bestHandle cL_bestHandle 5 (some .int) [(0, 9, 12, 13)] :: TT) { frames := 8, cells := 1, slots := 6 * 1, locals := 134 } (va_Pc [.ref (ad 117), .int x, .int y, .ref (ad 145)] (fun U9 => U9.heap.size = sz ∧ wB D cs ad (fA ad sz) M U9 ∧ xX (fA ad sz) U9 U9.heap)) (va_Qi (fun r M2 => r = nI 1 ∧ (fun M2 => M2 = M) M2) (wB D cs ad (fA ad sz)) (fA ad sz)) 1 (6 * 1) (fA ad sz) := by
  refine st_W (by decide) (Nat.le_of_ble_eq_true rfl) (fun κ C hN hT E => ?_)
  refine r_lv (lv2 := [(0, .ref (ad 117)), (1, .int x), (2, .int y), (3, .ref (ad 145))]) [0, 1, 2, 3] rfl ?_
  refine r_aload_n C dL_bestHandle_0 rfl 3 rfl ?_
  refine r_iconst C (nI 0) dL_bestHandle_1 (by decide) ?_
  refine r_aload_n C dL_bestHandle_2 rfl 0 rfl ?_
  refine r_iload_n C dL_bestHandle_3 rfl 1 rfl ?_
  refine r_iload_n C dL_bestHandle_4 rfl 2 rfl ?_
  refine r_catch_l (nA := 2) C hN hT (Nat.le_of_ble_eq_true rfl) [.int x, .int y] (c_X7_bestHandleX1 l D cs ad hfl M x y hbad) (tt_V ml_L_81 im_X7_bestHandle se_X7_bestHandle in_X7 co_X7_bestHandle) ⟨rfl, rfl⟩ ⟨rfl, by decide, by decide, by decide⟩ ⟨Nat.le_of_ble_eq_true rfl, Nat.le_of_ble_eq_true rfl⟩ (by decide) rfl rfl rfl rfl rfl (Nat.le_of_ble_eq_true rfl) dL_bestHandle_5 [] ⟨0, 9, 12, 13⟩ [] rfl (fun _ hz => absurd hz List.not_mem_nil) (by decide) (by decide) cl_L_13 (by decide +kernel) (fun q1 Mu1 qu1 => ?_)
  refine r_astore C [(4, .ref q1), (0, .ref (ad 117)), (1, .int x), (2, .int y), (3, .ref (ad 145))] dL_bestHandle_12 (by decide) rfl ?_
  refine r_iconst C (nI 1) dL_bestHandle_14 (by decide) ?_
  exact E 1 _ _ _ _ (Nat.le_of_ble_eq_true rfl) dL_bestHandle_15 (⟨rfl, qu1⟩)
set_option maxRecDepth 100000 in
set_option maxHeartbeats 4000000 in
theorem w_bestHandleX2 (l : Launch) (D : va_G) (cs : Nat → ClassId) (ad : Nat → Nat) (hfl : l.stackTraces = false) (M : Mm) (size : Nat) (hs1 : 1 ≤ size) (hs2 : size ≤ 2) (y : Int32) (hb1 : wit y (nI 0) (nI 1) = false) (hb2 : wit y (nI 10) (nI 13) = false) : ∀ sz : Nat, Met l yL_bestHandle (.codeWith yL_bestHandle cL_bestHandle 5 (some .int) [(0, 9, 12, 13)] :: TT) { frames := 7, cells := 1, slots := 6 * 1, locals := 114 } (va_Pc [.ref (ad 117), .int (nI size), .int y, .ref (ad 145)] (fun U9 => U9.heap.size = sz ∧ wB D cs ad (fA ad sz) M U9 ∧ xX (fA ad sz) U9 U9.heap)) (va_Qi (fun r M2 => r = nI 1 ∧ (fun M2 => M2 = M) M2) (wB D cs ad (fA ad sz)) (fA ad sz)) 1 (6 * 1) (fA ad sz) := by
  refine st_W (by decide) (Nat.le_of_ble_eq_true rfl) (fun κ C hN hT E => ?_)
  refine r_lv (lv2 := [(0, .ref (ad 117)), (1, .int (nI size)), (2, .int y), (3, .ref (ad 145))]) [0, 1, 2, 3] rfl ?_
  refine r_aload_n C dL_bestHandle_0 rfl 3 rfl ?_
  refine r_iconst C (nI 0) dL_bestHandle_1 (by decide) ?_
  refine r_aload_n C dL_bestHandle_2 rfl 0 rfl ?_
  refine r_iload_n C dL_bestHandle_3 rfl 1 rfl ?_
  refine r_iload_n C dL_bestHandle_4 rfl 2 rfl ?_
  refine r_catch_l (nA := 2) C hN hT (Nat.le_of_ble_eq_true rfl) [.int (nI size), .int y] (c_X7_bestHandleX2 l D cs ad hfl M size hs1 hs2 y hb1 hb2) (tt_V ml_L_81 im_X7_bestHandle se_X7_bestHandle in_X7 co_X7_bestHandle) ⟨rfl, rfl⟩ ⟨rfl, by decide, by decide, by decide⟩ ⟨Nat.le_of_ble_eq_true rfl, Nat.le_of_ble_eq_true rfl⟩ (by decide) rfl rfl rfl rfl rfl (Nat.le_of_ble_eq_true rfl) dL_bestHandle_5 [] ⟨0, 9, 12, 13⟩ [] rfl (fun _ hz => absurd hz List.not_mem_nil) (by decide) (by decide) cl_L_13 (by decide +kernel) (fun q1 Mu1 qu1 => ?_)
  refine r_astore C [(4, .ref q1), (0, .ref (ad 117)), (1, .int (nI size)), (2, .int y), (3, .ref (ad 145))] dL_bestHandle_12 (by decide) rfl ?_
  refine r_iconst C (nI 1) dL_bestHandle_14 (by decide) ?_
  exact E 1 _ _ _ _ (Nat.le_of_ble_eq_true rfl) dL_bestHandle_15 (⟨rfl, qu1⟩)
set_option maxRecDepth 100000 in
set_option maxHeartbeats 4000000 in
theorem w_count (l : Launch) (D : va_G) (cs : Nat → ClassId) (ad : Nat → Nat) (M : Mm) (z : Nat → Int32) (n d : Nat) (hg : gv M 0 (gH 0) z n d) (hn8 : n ≤ 8) (hm : gm z n) (mk wt9 : Nat → Nat) (hk : gk z n mk) (hw9 : gw z n wt9) (hsy : gs z n) (hn1 : 1 ≤ n) (hpm : M.1 117 9 = z 54) (htk : ∀ k, k < 2 → M.1 119 k = nI 0 ∨ M.1 119 k = nI 1) (k : Nat) (hk9 : k ≤ 11) : ∀ sz : Nat, Met l yL_count (.codeWith yL_count cL_count 4 (some .int) [(0, 9, 12, 13)] :: TT) { frames := 43, cells := 0, slots := 6 * 0, locals := 1063 } (va_Pc [.ref (ad 117), .int (nI k), .ref (ad 145)] (fun U9 => U9.heap.size = sz ∧ wB D cs ad (fA ad sz) M U9 ∧ xX (fA ad sz) U9 U9.heap)) (va_Qi (fun r M2 => r = nI 0 ∧ ∃ v9 M9, (fun r M2 => r = ctz z (M.1 119) (M.1 120 3) n d k ∧ lkP M M2) v9 M9 ∧ M2 = mJ M9 145 0 (v9.toInt64)) (wB D cs ad (fA ad sz)) (fA ad sz)) 0 (6 * 0) (fA ad sz) := by
  refine st_W (by decide) (Nat.le_of_ble_eq_true rfl) (fun κ C hN hT E => ?_)
  refine r_lv (lv2 := [(0, .ref (ad 117)), (1, .int (nI k)), (2, .ref (ad 145))]) [0, 1, 2] rfl ?_
  refine r_aload_n C dL_count_0 rfl 2 rfl ?_
  refine r_iconst C (nI 0) dL_count_1 (by decide) ?_
  refine r_aload_n C dL_count_2 rfl 0 rfl ?_
  refine r_iload_n C dL_count_3 rfl 1 rfl ?_
  refine r_ncallV_i (nA := 1) C hN (Nat.le_of_ble_eq_true rfl) [.int (nI k)] (c_X7_count l D cs ad M z n d hg hn8 hm mk wt9 hk hw9 hsy hn1 hpm htk k hk9) (tt_V ml_L_85 im_X7_count se_X7_count in_X7 co_X7_count) ⟨rfl, rfl⟩ ⟨rfl, by decide, by decide, by decide⟩ ⟨Nat.le_of_ble_eq_true rfl, Nat.le_of_ble_eq_true rfl⟩ (by decide) rfl rfl rfl rfl rfl (Nat.le_of_ble_eq_true rfl) dL_count_4 (fun r1 Mu1 qu1 => ?_)
  refine r_i2l C dL_count_7 ?_
  refine r_last C (id := 145) (n := 1) (a := 0) (by decide) (fun _ => rfl) (by decide) (by decide) dL_count_8 ?_
  refine r_goto C 15 dL_count_9 (by decide) ?_
  refine r_iconst C (nI 0) dL_count_15 (by decide) ?_
  exact E 0 _ _ _ _ (Nat.le_of_ble_eq_true rfl) dL_count_16 (⟨rfl, r1, Mu1, qu1, rfl⟩)
set_option maxRecDepth 100000 in
set_option maxHeartbeats 4000000 in
theorem w_countX (l : Launch) (D : va_G) (cs : Nat → ClassId) (ad : Nat → Nat) (hfl : l.stackTraces = false) (M : Mm) (x : Int32) (hbad : wit x (nI 0) (nI 11) = false) : ∀ sz : Nat, Met l yL_count (.codeWith yL_count cL_count 4 (some .int) [(0, 9, 12, 13)] :: TT) { frames := 7, cells := 1, slots := 6 * 1, locals := 113 } (va_Pc [.ref (ad 117), .int x, .ref (ad 145)] (fun U9 => U9.heap.size = sz ∧ wB D cs ad (fA ad sz) M U9 ∧ xX (fA ad sz) U9 U9.heap)) (va_Qi (fun r M2 => r = nI 1 ∧ (fun M2 => M2 = M) M2) (wB D cs ad (fA ad sz)) (fA ad sz)) 1 (6 * 1) (fA ad sz) := by
  refine st_W (by decide) (Nat.le_of_ble_eq_true rfl) (fun κ C hN hT E => ?_)
  refine r_lv (lv2 := [(0, .ref (ad 117)), (1, .int x), (2, .ref (ad 145))]) [0, 1, 2] rfl ?_
  refine r_aload_n C dL_count_0 rfl 2 rfl ?_
  refine r_iconst C (nI 0) dL_count_1 (by decide) ?_
  refine r_aload_n C dL_count_2 rfl 0 rfl ?_
  refine r_iload_n C dL_count_3 rfl 1 rfl ?_
  refine r_catch_i (nA := 1) C hN hT (Nat.le_of_ble_eq_true rfl) [.int x] (c_X7_countX l D cs ad hfl M x hbad) (tt_V ml_L_85 im_X7_count se_X7_count in_X7 co_X7_count) ⟨rfl, rfl⟩ ⟨rfl, by decide, by decide, by decide⟩ ⟨Nat.le_of_ble_eq_true rfl, Nat.le_of_ble_eq_true rfl⟩ (by decide) rfl rfl rfl rfl rfl (Nat.le_of_ble_eq_true rfl) dL_count_4 [] ⟨0, 9, 12, 13⟩ [] rfl (fun _ hz => absurd hz List.not_mem_nil) (by decide) (by decide) cl_L_13 (by decide +kernel) (fun q1 Mu1 qu1 => ?_)
  refine r_astore_n C [(3, .ref q1), (0, .ref (ad 117)), (1, .int x), (2, .ref (ad 145))] dL_count_12 rfl (by decide) rfl ?_
  refine r_iconst C (nI 1) dL_count_13 (by decide) ?_
  exact E 1 _ _ _ _ (Nat.le_of_ble_eq_true rfl) dL_count_14 (⟨rfl, qu1⟩)
set_option maxRecDepth 100000 in
set_option maxHeartbeats 4000000 in
theorem w_multiply (l : Launch) (D : va_G) (cs : Nat → ClassId) (ad : Nat → Nat) (M : Mm) (z : Nat → Int32) (n d : Nat) (hg : gv M 0 (gH 0) z n d) (hn8 : n ≤ 8) (lt : Nat) (hlt : M.1 120 2 = nI lt) (hlt6 : lt < 6) (s9 : Nat) (hs : M.1 120 3 = nI s9) (hs6 : s9 ≤ 6) (q : Nat) (hq : q ≤ 1) (ht : M.1 119 q = nI 1) (y : Nat → Int32) (n2 d2 : Nat) (hy : gv M (1 + q) (gH (1 + q)) y n2 d2) (hn28 : n2 ≤ 8) (hd4 : d ≤ 4) (hd24 : d2 ≤ 4) (N9 dd : Nat) (hNN : n * n2 = N9) (hdd : d * d2 = dd) (h11 : 1 ≤ n) (h12 : 1 ≤ n2) (h13 : 1 ≤ d) (h14 : 1 ≤ d2) (hm : gm z n) (hmy : gm y n2) (hN8 : N9 ≤ 8) (hd44 : dd ≤ 4) (hrz : rzI z y n n2 N9 dd = nI 0) (c : Nat → Int32) : ∀ sz : Nat, Met l yL_multiply (.codeWith yL_multiply cL_multiply 4 (some .int) [(0, 9, 12, 19), (0, 9, 15, 28)] :: TT) { frames := 5, cells := 0, slots := 6 * 0, locals := 146 } (va_Pc [.ref (ad 117), .int (nI q), .ref (ad 145)] (fun U9 => U9.heap.size = sz ∧ wB D cs ad (fA ad sz) M U9 ∧ xX (fA ad sz) U9 U9.heap)) (va_Qi (fun r M2 => r = nI 0 ∧ ∃ v9 M9, (fun r M2 => r = nI N9 ∧ ∃ M1 M3, svP M M1 z n d lt s9 (M.1 117 9) ∧ oG 0 M1 M3 ∧ gv M3 0 (gH 0) (mdR c z y N9 dd n2 d2) N9 dd ∧ M2 = mI M3 117 9 (M.1 117 9 + nI 1)) v9 M9 ∧ M2 = mJ M9 145 0 (v9.toInt64)) (wB D cs ad (fA ad sz)) (fA ad sz)) 0 (6 * 0) (fA ad sz) := by
  refine st_W (by decide) (Nat.le_of_ble_eq_true rfl) (fun κ C hN hT E => ?_)
  refine r_lv (lv2 := [(0, .ref (ad 117)), (1, .int (nI q)), (2, .ref (ad 145))]) [0, 1, 2] rfl ?_
  refine r_aload_n C dL_multiply_0 rfl 2 rfl ?_
  refine r_iconst C (nI 0) dL_multiply_1 (by decide) ?_
  refine r_aload_n C dL_multiply_2 rfl 0 rfl ?_
  refine r_iload_n C dL_multiply_3 rfl 1 rfl ?_
  refine r_ncallV_i (nA := 1) C hN (Nat.le_of_ble_eq_true rfl) [.int (nI q)] (c_X7_multiply l D cs ad M z n d hg hn8 lt hlt hlt6 s9 hs hs6 q hq ht y n2 d2 hy hn28 hd4 hd24 N9 dd hNN hdd h11 h12 h13 h14 hm hmy hN8 hd44 hrz c) (tt_V ml_L_30 im_X7_multiply se_X7_multiply in_X7 co_X7_multiply) ⟨rfl, rfl⟩ ⟨rfl, by decide, by decide, by decide⟩ ⟨Nat.le_of_ble_eq_true rfl, Nat.le_of_ble_eq_true rfl⟩ (by decide) rfl rfl rfl rfl rfl (Nat.le_of_ble_eq_true rfl) dL_multiply_4 (fun r1 Mu1 qu1 => ?_)
  refine r_i2l C dL_multiply_7 ?_
  refine r_last C (id := 145) (n := 1) (a := 0) (by decide) (fun _ => rfl) (by decide) (by decide) dL_multiply_8 ?_
  refine r_goto C 18 dL_multiply_9 (by decide) ?_
  refine r_iconst C (nI 0) dL_multiply_18 (by decide) ?_
  exact E 0 _ _ _ _ (Nat.le_of_ble_eq_true rfl) dL_multiply_19 (⟨rfl, r1, Mu1, qu1, rfl⟩)
set_option maxRecDepth 100000 in
set_option maxHeartbeats 4000000 in
theorem w_multiplyX (l : Launch) (D : va_G) (cs : Nat → ClassId) (ad : Nat → Nat) (hfl : l.stackTraces = false) (M : Mm) (x : Int32) (hbad : wit x (nI 0) (nI 1) = false) : ∀ sz : Nat, Met l yL_multiply (.codeWith yL_multiply cL_multiply 4 (some .int) [(0, 9, 12, 19), (0, 9, 15, 28)] :: TT) { frames := 9, cells := 1, slots := 6 * 1, locals := 156 } (va_Pc [.ref (ad 117), .int x, .ref (ad 145)] (fun U9 => U9.heap.size = sz ∧ wB D cs ad (fA ad sz) M U9 ∧ xX (fA ad sz) U9 U9.heap)) (va_Qi (fun r M2 => r = nI 1 ∧ (fun M2 => M2 = M) M2) (wB D cs ad (fA ad sz)) (fA ad sz)) 1 (6 * 1) (fA ad sz) := by
  refine st_W (by decide) (Nat.le_of_ble_eq_true rfl) (fun κ C hN hT E => ?_)
  refine r_lv (lv2 := [(0, .ref (ad 117)), (1, .int x), (2, .ref (ad 145))]) [0, 1, 2] rfl ?_
  refine r_aload_n C dL_multiply_0 rfl 2 rfl ?_
  refine r_iconst C (nI 0) dL_multiply_1 (by decide) ?_
  refine r_aload_n C dL_multiply_2 rfl 0 rfl ?_
  refine r_iload_n C dL_multiply_3 rfl 1 rfl ?_
  refine r_catch_i (nA := 1) C hN hT (Nat.le_of_ble_eq_true rfl) [.int x] (c_X7_multiplyX l D cs ad hfl M x hbad) (tt_V ml_L_30 im_X7_multiply se_X7_multiply in_X7 co_X7_multiply) ⟨rfl, rfl⟩ ⟨rfl, by decide, by decide, by decide⟩ ⟨Nat.le_of_ble_eq_true rfl, Nat.le_of_ble_eq_true rfl⟩ (by decide) rfl rfl rfl rfl rfl (Nat.le_of_ble_eq_true rfl) dL_multiply_4 [] ⟨0, 9, 12, 19⟩ [⟨0, 9, 15, 28⟩] rfl (fun _ hz => absurd hz List.not_mem_nil) (by decide) (by decide) cl_L_19 (by decide +kernel) (fun q1 Mu1 qu1 => ?_)
  refine r_astore_n C [(3, .ref q1), (0, .ref (ad 117)), (1, .int x), (2, .ref (ad 145))] dL_multiply_12 rfl (by decide) rfl ?_
  refine r_iconst C (nI 1) dL_multiply_13 (by decide) ?_
  exact E 1 _ _ _ _ (Nat.le_of_ble_eq_true rfl) dL_multiply_14 (⟨rfl, qu1⟩)
set_option maxRecDepth 100000 in
set_option maxHeartbeats 4000000 in
theorem w_multiplyF (l : Launch) (D : va_G) (cs : Nat → ClassId) (ad : Nat → Nat) (hfl : l.stackTraces = false) (M : Mm) (q : Nat) (hq : q ≤ 1) (ht : M.1 119 q = nI 0) : ∀ sz : Nat, Met l yL_multiply (.codeWith yL_multiply cL_multiply 4 (some .int) [(0, 9, 12, 19), (0, 9, 15, 28)] :: TT) { frames := 8, cells := 1, slots := 6 * 1, locals := 135 } (va_Pc [.ref (ad 117), .int (nI q), .ref (ad 145)] (fun U9 => U9.heap.size = sz ∧ wB D cs ad (fA ad sz) M U9 ∧ xX (fA ad sz) U9 U9.heap)) (va_Qi (fun r M2 => r = nI 2 ∧ (fun M2 => M2 = M) M2) (wB D cs ad (fA ad sz)) (fA ad sz)) 1 (6 * 1) (fA ad sz) := by
  refine st_W (by decide) (Nat.le_of_ble_eq_true rfl) (fun κ C hN hT E => ?_)
  refine r_lv (lv2 := [(0, .ref (ad 117)), (1, .int (nI q)), (2, .ref (ad 145))]) [0, 1, 2] rfl ?_
  refine r_aload_n C dL_multiply_0 rfl 2 rfl ?_
  refine r_iconst C (nI 0) dL_multiply_1 (by decide) ?_
  refine r_aload_n C dL_multiply_2 rfl 0 rfl ?_
  refine r_iload_n C dL_multiply_3 rfl 1 rfl ?_
  refine r_catch_i (nA := 1) C hN hT (Nat.le_of_ble_eq_true rfl) [.int (nI q)] (c_X7_multiplyF l D cs ad hfl M q hq ht) (tt_V ml_L_30 im_X7_multiply se_X7_multiply in_X7 co_X7_multiply) ⟨rfl, rfl⟩ ⟨rfl, by decide, by decide, by decide⟩ ⟨Nat.le_of_ble_eq_true rfl, Nat.le_of_ble_eq_true rfl⟩ (by decide) rfl rfl rfl rfl rfl (Nat.le_of_ble_eq_true rfl) dL_multiply_4 [⟨0, 9, 12, 19⟩] ⟨0, 9, 15, 28⟩ [] rfl (fun z hz => by rcases List.mem_singleton.mp hz with rfl; exact ⟨by decide, _, cl_L_19, by decide +kernel⟩) (by decide) (by decide) cl_L_28 (by decide +kernel) (fun q1 Mu1 qu1 => ?_)
  refine r_astore_n C [(3, .ref q1), (0, .ref (ad 117)), (1, .int (nI q)), (2, .ref (ad 145))] dL_multiply_15 rfl (by decide) rfl ?_
  refine r_iconst C (nI 2) dL_multiply_16 (by decide) ?_
  exact E 1 _ _ _ _ (Nat.le_of_ble_eq_true rfl) dL_multiply_17 (⟨rfl, qu1⟩)
set_option maxRecDepth 100000 in
set_option maxHeartbeats 4000000 in
theorem w_multiplyN (l : Launch) (D : va_G) (cs : Nat → ClassId) (ad : Nat → Nat) (hfl : l.stackTraces = false) (M : Mm) (z : Nat → Int32) (n d : Nat) (hg : gv M 0 (gH 0) z n d) (hn8 : n ≤ 8) (q : Nat) (hq : q ≤ 1) (ht : M.1 119 q = nI 1) (y : Nat → Int32) (n2 d2 : Nat) (hy : gv M (1 + q) (gH (1 + q)) y n2 d2) (hn28 : n2 ≤ 8) (hd4 : d ≤ 4) (hd24 : d2 ≤ 4) (N9 dd : Nat) (hNN : n * n2 = N9) (hdd : d * d2 = dd) (hrz : ¬ rzI z y n n2 N9 dd = nI 0) : ∀ sz : Nat, Met l yL_multiply (.codeWith yL_multiply cL_multiply 4 (some .int) [(0, 9, 12, 19), (0, 9, 15, 28)] :: TT) { frames := 7, cells := 1, slots := 6 * 1, locals := 114 } (va_Pc [.ref (ad 117), .int (nI q), .ref (ad 145)] (fun U9 => U9.heap.size = sz ∧ wB D cs ad (fA ad sz) M U9 ∧ xX (fA ad sz) U9 U9.heap)) (va_Qi (fun r M2 => r = nI 2 ∧ (fun M2 => M2 = M) M2) (wB D cs ad (fA ad sz)) (fA ad sz)) 1 (6 * 1) (fA ad sz) := by
  refine st_W (by decide) (Nat.le_of_ble_eq_true rfl) (fun κ C hN hT E => ?_)
  refine r_lv (lv2 := [(0, .ref (ad 117)), (1, .int (nI q)), (2, .ref (ad 145))]) [0, 1, 2] rfl ?_
  refine r_aload_n C dL_multiply_0 rfl 2 rfl ?_
  refine r_iconst C (nI 0) dL_multiply_1 (by decide) ?_
  refine r_aload_n C dL_multiply_2 rfl 0 rfl ?_
  refine r_iload_n C dL_multiply_3 rfl 1 rfl ?_
  refine r_catch_i (nA := 1) C hN hT (Nat.le_of_ble_eq_true rfl) [.int (nI q)] (c_X7_multiplyN l D cs ad hfl M z n d hg hn8 q hq ht y n2 d2 hy hn28 hd4 hd24 N9 dd hNN hdd hrz) (tt_V ml_L_30 im_X7_multiply se_X7_multiply in_X7 co_X7_multiply) ⟨rfl, rfl⟩ ⟨rfl, by decide, by decide, by decide⟩ ⟨Nat.le_of_ble_eq_true rfl, Nat.le_of_ble_eq_true rfl⟩ (by decide) rfl rfl rfl rfl rfl (Nat.le_of_ble_eq_true rfl) dL_multiply_4 [⟨0, 9, 12, 19⟩] ⟨0, 9, 15, 28⟩ [] rfl (fun z hz => by rcases List.mem_singleton.mp hz with rfl; exact ⟨by decide, _, cl_L_19, by decide +kernel⟩) (by decide) (by decide) cl_L_28 (by decide +kernel) (fun q1 Mu1 qu1 => ?_)
  refine r_astore_n C [(3, .ref q1), (0, .ref (ad 117)), (1, .int (nI q)), (2, .ref (ad 145))] dL_multiply_15 rfl (by decide) rfl ?_
  refine r_iconst C (nI 2) dL_multiply_16 (by decide) ?_
  exact E 1 _ _ _ _ (Nat.le_of_ble_eq_true rfl) dL_multiply_17 (⟨rfl, qu1⟩)
