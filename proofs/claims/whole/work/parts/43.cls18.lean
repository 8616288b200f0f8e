/-! ===== the class: its calls, 3 (written by wip/whole/gen/cls18.py) ===== -/
set_option maxRecDepth 100000 in
set_option maxHeartbeats 4000000 in
theorem c_X7_undo (l : Launch) (D : va_G) (cs : Nat → ClassId) (ad : Nat → Nat) (M : Mm) (lt : Nat) (hlt : M.1 120 2 = nI lt) (hlt6 : lt < 6) (s9 : Nat) (hs : M.1 120 3 = nI s9) (hs6 : s9 ≤ 6) (hs1 : 1 ≤ s9) (y : Nat → Int32) (n2 d2 : Nat) (hy : gv M (3 + lt) (gH (3 + lt)) y n2 d2) (hn28 : n2 ≤ 8) : ∀ sz : Nat, Met l yX7_undo (.code yX7_undo cX7_undo 1 (some .int) :: TT) { frames := 2, cells := 0, slots := 0, locals := 82 } (va_Pc [.ref (ad 117)] (fun U9 => U9.heap.size = sz ∧ wB D cs ad (fA ad sz) M U9 ∧ xX (fA ad sz) U9 U9.heap)) (va_Qi (fun r M2 => r = nI (s9 - 1) ∧ ∃ M1, oG 0 M M1 ∧ gv M1 0 (gH 0) y n2 d2 ∧ M2 = mI (mI (mI M1 117 9 (M1.1 122 lt)) 120 2 (nI (pv6 lt))) 120 3 (nI (s9 - 1))) (wB D cs ad (fA ad sz)) (fA ad sz)) 0 0 (fA ad sz) := by
  refine sn_I (by decide) (Nat.le_of_ble_eq_true rfl) (fun κ C hN E => ?_)
  refine r_lv (lv2 := [(0, .ref (ad 117))]) [0] rfl ?_
  refine r_aload_n C dX7_undo_0 rfl 0 rfl ?_
  refine r_get C (Cn := RX7) (T := TX7) (N := 10) (id := 117) (by decide) inw_X7 rfl rfl 3 (by decide) rfl fl_X7_27 rfl dX7_undo_1 ?_
  refine r_get C (Cn := RX6) (T := TX6) (N := 4) (id := 120) (by decide) inw_X6 rfl rfl 3 (by decide) rfl fl_X7_217 rfl dX7_undo_4 ?_
  refine r_topi (w := nI s9) hs ?_
  refine r_ifN_ne C 20 dX7_undo_7 (by decide) (by omega) (fun h7 => ?_) (fun h7 => ?_)
  ·
    refine r_aload_n C dX7_undo_20 rfl 0 rfl ?_
    refine r_get C (Cn := RX7) (T := TX7) (N := 10) (id := 117) (by decide) inw_X7 rfl rfl 0 (by decide) rfl fl_X7_12 rfl dX7_undo_21 ?_
    refine r_aload_n C dX7_undo_24 rfl 0 rfl ?_
    refine r_get C (Cn := RX7) (T := TX7) (N := 10) (id := 117) (by decide) inw_X7 rfl rfl 3 (by decide) rfl fl_X7_27 rfl dX7_undo_25 ?_
    refine r_pcallV_r (nA := 0) (k9 := gO (3 + lt)) C (Nat.le_of_ble_eq_true rfl) [] (c_X6_latestGraph l D cs ad M lt hlt hlt6) (tt_V ml_X7_127 im_X6_latestGraph se_X6_latestGraph in_X6 co_X6_latestGraph) ⟨rfl, rfl⟩ ⟨rfl, by decide, by decide, by decide⟩ ⟨Nat.le_of_ble_eq_true rfl, Nat.le_of_ble_eq_true rfl⟩ (by decide) rfl rfl rfl rfl rfl (Nat.le_of_ble_eq_true rfl) dX7_undo_28 ?_
    refine r_callV_v (nA := 1) C (Nat.le_of_ble_eq_true rfl) [.ref (ad (gO (3 + lt)))] (c_X4_copyFrom l D cs ad M 0  (3 + lt) (by decide) (by omega) (by omega) y n2 d2 hy hn28) (tt_V ml_X7_214 im_X4_copyFrom se_X4_copyFrom in_X4 co_X4_copyFrom) ⟨rfl, rfl⟩ ⟨rfl, by decide, by decide, by decide⟩ ⟨Nat.le_of_ble_eq_true rfl, Nat.le_of_ble_eq_true rfl⟩ (by simp only [gO, gN, gW, gL, gR, gH] <;> omega) (wF_O cs ad (by decide) _ _) rfl rfl rfl rfl (Nat.le_of_ble_eq_true rfl) dX7_undo_31 (fun Mu1 qu1 => ?_)
    refine r_aload_n C dX7_undo_34 rfl 0 rfl ?_
    refine r_aload_n C dX7_undo_35 rfl 0 rfl ?_
    refine r_get C (Cn := RX7) (T := TX7) (N := 10) (id := 117) (by decide) inw_X7 rfl rfl 3 (by decide) rfl fl_X7_27 rfl dX7_undo_36 ?_
    refine r_pcallV_i (nA := 0) C (Nat.le_of_ble_eq_true rfl) [] (c_X6_latestProducts l D cs ad Mu1  lt (by rw [qu1.1.1 120 (by decide)]; exact hlt) hlt6) (tt_V ml_X7_222 im_X6_latestProducts se_X6_latestProducts in_X6 co_X6_latestProducts) ⟨rfl, rfl⟩ ⟨rfl, by decide, by decide, by decide⟩ ⟨Nat.le_of_ble_eq_true rfl, Nat.le_of_ble_eq_true rfl⟩ (by decide) rfl rfl rfl rfl rfl (Nat.le_of_ble_eq_true rfl) dX7_undo_39 ?_
    refine r_put C (M2 := (mI Mu1 117 9 (Mu1.1 122 lt))) (Cn := RX7) (T := TX7) (N := 10) (id := 117) (by decide) inw_X7 tyX7_ok nmX7 rfl rfl 9 (by decide) rfl fl_X7_66 rfl rfl (rfl) (Nat.le_of_ble_eq_true rfl) (fun j hj => ⟨mI_ne _ hj, rfl⟩) rfl dX7_undo_42 ?_
    refine r_aload_n C dX7_undo_45 rfl 0 rfl ?_
    refine r_get C (Cn := RX7) (T := TX7) (N := 10) (id := 117) (by decide) inw_X7 rfl rfl 3 (by decide) rfl fl_X7_27 rfl dX7_undo_46 ?_
    refine r_pcallV_v (nA := 0) C (Nat.le_of_ble_eq_true rfl) [] (c_X6_dropLatest l D cs ad (mI Mu1 117 9 (Mu1.1 122 lt))  lt (by rw [mI_ne _ (by decide), qu1.1.1 120 (by decide)]; exact hlt) hlt6 s9 (by rw [mI_ne _ (by decide), qu1.1.1 120 (by decide)]; exact hs) hs6 hs1) (tt_V ml_X7_225 im_X6_dropLatest se_X6_dropLatest in_X6 co_X6_dropLatest) ⟨rfl, rfl⟩ ⟨rfl, by decide, by decide, by decide⟩ ⟨Nat.le_of_ble_eq_true rfl, Nat.le_of_ble_eq_true rfl⟩ (by decide) rfl rfl rfl rfl rfl (Nat.le_of_ble_eq_true rfl) dX7_undo_49 ?_
    refine r_aload_n C dX7_undo_52 rfl 0 rfl ?_
    refine r_get C (Cn := RX7) (T := TX7) (N := 10) (id := 117) (by decide) inw_X7 rfl rfl 3 (by decide) rfl fl_X7_27 rfl dX7_undo_53 ?_
    refine r_get C (Cn := RX6) (T := TX6) (N := 4) (id := 120) (by decide) inw_X6 rfl rfl 3 (by decide) rfl fl_X7_217 rfl dX7_undo_56 ?_
    refine r_topi (w := nI (s9 - 1)) (by rw [mI_eq, upd_e]) ?_
    exact E 0 _ _ _ _ (Nat.le_of_ble_eq_true rfl) dX7_undo_59 (⟨rfl, _, qu1.1, qu1.2, rfl⟩)
  · omega
set_option maxRecDepth 100000 in
set_option maxHeartbeats 4000000 in
theorem c_X7_undoX (l : Launch) (D : va_G) (cs : Nat → ClassId) (ad : Nat → Nat) (hfl : l.stackTraces = false) (M : Mm) (hs : M.1 120 3 = nI 0) : ∀ sz : Nat, vx_Met l yX7_undo (.code yX7_undo cX7_undo 1 (some .int) :: TT) { frames := 6, cells := 1, slots := 6, locals := 92 } (va_Pc [.ref (ad 117)] (fun U9 => U9.heap.size = sz ∧ wB D cs ad (fA ad sz) M U9 ∧ xX (fA ad sz) U9 U9.heap)) (va_Qi (fun _ (_ : Mm) => False) (wB D cs ad (fA ad sz)) (fA ad sz)) (vx_X (fun M2 => M2 = M) (fun E9 M2 t => E9 = xQS ∧ wB D cs ad (fA ad sz) M2 t) (fA ad sz)) 1 6 (fA ad sz) := by
  refine sx_I hfl (by decide) (Nat.le_of_ble_eq_true rfl) (fun κ C hN X => ?_)
  refine r_lv (lv2 := [(0, .ref (ad 117))]) [0] rfl ?_
  refine r_aload_n C dX7_undo_0 rfl 0 rfl ?_
  refine r_get C (Cn := RX7) (T := TX7) (N := 10) (id := 117) (by decide) inw_X7 rfl rfl 3 (by decide) rfl fl_X7_27 rfl dX7_undo_1 ?_
  refine r_get C (Cn := RX6) (T := TX6) (N := 4) (id := 120) (by decide) inw_X6 rfl rfl 3 (by decide) rfl fl_X7_217 rfl dX7_undo_4 ?_
  refine r_topi (w := nI 0) hs ?_
  refine r_if_ne C 20 dX7_undo_7 (by decide) (fun h7 => ?_) (fun h7 => ?_)
  · exact absurd rfl h7
  ·
    exact r_throw C hN X (by decide) (show (220, "there is no saved state") ∈ xTx from List.mem_of_getElem? (i := 15) rfl) xl_S xi_S xw_S xg_S dX7_undo_10 dX7_undo_13 dX7_undo_14 dX7_undo_16 dX7_undo_19 (Nat.le_of_ble_eq_true rfl) (Nat.le_of_ble_eq_true rfl) rfl
set_option maxRecDepth 100000 in
set_option maxHeartbeats 4000000 in
theorem c_X7_joined (l : Launch) (D : va_G) (cs : Nat → ClassId) (ad : Nat → Nat) (M : Mm) (z : Nat → Int32) (n d : Nat) (hg : gv M 0 (gH 0) z n d) (hn8 : n ≤ 8) (hm : gm z n) (a b : Nat) (ha : a < n) (hb : b < n) : ∀ sz : Nat, Met l yX7_joined (.code yX7_joined cX7_joined 3 (some .int) :: TT) { frames := 1, cells := 0, slots := 0, locals := 22 } (va_Pc [.ref (ad 117), .int (nI a), .int (nI b)] (fun U9 => U9.heap.size = sz ∧ wB D cs ad (fA ad sz) M U9 ∧ xX (fA ad sz) U9 U9.heap)) (va_Qi (fun r M2 => r = bI (bt (z (10 + a)) b) ∧ M2 = M) (wB D cs ad (fA ad sz)) (fA ad sz)) 0 0 (fA ad sz) := by
  refine sn_I (by decide) (Nat.le_of_ble_eq_true rfl) (fun κ C hN E => ?_)
  refine r_lv (lv2 := [(0, .ref (ad 117)), (1, .int (nI a)), (2, .int (nI b))]) [0, 1, 2] rfl ?_
  refine r_aload_n C dX7_joined_0 rfl 0 rfl ?_
  refine r_iload_n C dX7_joined_1 rfl 1 rfl ?_
  refine r_pcallV_v (nA := 1) C (Nat.le_of_ble_eq_true rfl) [.int (nI a)] (c_X7_checkVertex l D cs ad M  n hg.1 hn8 a (by omega)) (tt_V ml_X7_87 im_X7_checkVertex se_X7_checkVertex in_X7 co_X7_checkVertex) ⟨rfl, rfl⟩ ⟨rfl, by decide, by decide, by decide⟩ ⟨Nat.le_of_ble_eq_true rfl, Nat.le_of_ble_eq_true rfl⟩ (by decide) rfl rfl rfl rfl rfl (Nat.le_of_ble_eq_true rfl) dX7_joined_2 ?_
  refine r_aload_n C dX7_joined_5 rfl 0 rfl ?_
  refine r_iload_n C dX7_joined_6 rfl 2 rfl ?_
  refine r_pcallV_v (nA := 1) C (Nat.le_of_ble_eq_true rfl) [.int (nI b)] (c_X7_checkVertex l D cs ad M  n hg.1 hn8 b (by omega)) (tt_V ml_X7_87 im_X7_checkVertex se_X7_checkVertex in_X7 co_X7_checkVertex) ⟨rfl, rfl⟩ ⟨rfl, by decide, by decide, by decide⟩ ⟨Nat.le_of_ble_eq_true rfl, Nat.le_of_ble_eq_true rfl⟩ (by decide) rfl rfl rfl rfl rfl (Nat.le_of_ble_eq_true rfl) dX7_joined_7 ?_
  refine r_aload_n C dX7_joined_10 rfl 0 rfl ?_
  refine r_get C (Cn := RX7) (T := TX7) (N := 10) (id := 117) (by decide) inw_X7 rfl rfl 0 (by decide) rfl fl_X7_12 rfl dX7_joined_11 ?_
  refine r_iload_n C dX7_joined_14 rfl 1 rfl ?_
  refine r_iload_n C dX7_joined_15 rfl 2 rfl ?_
  refine r_pcallV_i (nA := 2) C (Nat.le_of_ble_eq_true rfl) [.int (nI a), .int (nI b)] (c_X4_areJoined l D cs ad M 0  (by decide) (gH 0) z n d hg hn8 hm a b (by omega) (by omega)) (tt_V ml_X7_228 im_X4_areJoined se_X4_areJoined in_X4 co_X4_areJoined) ⟨rfl, rfl⟩ ⟨rfl, by decide, by decide, by decide⟩ ⟨Nat.le_of_ble_eq_true rfl, Nat.le_of_ble_eq_true rfl⟩ (by simp only [gO, gN, gW, gL, gR, gH] <;> omega) (wF_O cs ad (by decide) _ _) rfl rfl rfl rfl (Nat.le_of_ble_eq_true rfl) dX7_joined_16 ?_
  refine r_ifB_eq C 26 dX7_joined_19 (by decide) (fun h19 => ?_) (fun h19 => ?_)
  ·
    refine r_iconst C (nI 0) dX7_joined_26 (by decide) ?_
    exact E 0 _ _ _ _ (Nat.le_of_ble_eq_true rfl) dX7_joined_27 (⟨bI_off h19, rfl⟩)
  ·
    refine r_iconst C (nI 1) dX7_joined_22 (by decide) ?_
    refine r_goto C 27 dX7_joined_23 (by decide) ?_
    exact E 0 _ _ _ _ (Nat.le_of_ble_eq_true rfl) dX7_joined_27 (⟨bI_on h19, rfl⟩)
set_option maxRecDepth 100000 in
set_option maxHeartbeats 4000000 in
theorem c_X7_joinedX1 (l : Launch) (D : va_G) (cs : Nat → ClassId) (ad : Nat → Nat) (hfl : l.stackTraces = false) (M : Mm) (z : Nat → Int32) (n d : Nat) (hg : gv M 0 (gH 0) z n d) (hn8 : n ≤ 8) (hn1 : 1 ≤ n) (x y : Int32) (hbad : wit x (nI 0) (nI n - nI 1) = false) : ∀ sz : Nat, vx_Met l yX7_joined (.code yX7_joined cX7_joined 3 (some .int) :: TT) { frames := 7, cells := 1, slots := 6, locals := 113 } (va_Pc [.ref (ad 117), .int x, .int y] (fun U9 => U9.heap.size = sz ∧ wB D cs ad (fA ad sz) M U9 ∧ xX (fA ad sz) U9 U9.heap)) (va_Qi (fun _ (_ : Mm) => False) (wB D cs ad (fA ad sz)) (fA ad sz)) (vx_X (fun M2 => M2 = M) (fun E9 M2 t => E9 = xQI ∧ wB D cs ad (fA ad sz) M2 t) (fA ad sz)) 1 6 (fA ad sz) := by
  refine sx_I hfl (by decide) (Nat.le_of_ble_eq_true rfl) (fun κ C hN X => ?_)
  refine r_lv (lv2 := [(0, .ref (ad 117)), (1, .int x), (2, .int y)]) [0, 1, 2] rfl ?_
  refine r_aload_n C dX7_joined_0 rfl 0 rfl ?_
  refine r_iload_n C dX7_joined_1 rfl 1 rfl ?_
  exact r_xcallV_v (nA := 1) C hN X [.int x] (c_X7_checkVertexX l D cs ad hfl M  n hg.1 hn8 hn1 x hbad) (tt_V ml_X7_87 im_X7_checkVertex se_X7_checkVertex in_X7 co_X7_checkVertex) ⟨rfl, rfl⟩ ⟨rfl, by decide, by decide, by decide⟩ ⟨Nat.le_of_ble_eq_true rfl, Nat.le_of_ble_eq_true rfl⟩ (by decide) rfl rfl rfl rfl rfl (Nat.le_of_ble_eq_true rfl) dX7_joined_2 (fun _ h => h)
set_option maxRecDepth 100000 in
set_option maxHeartbeats 4000000 in
theorem c_X7_joinedX2 (l : Launch) (D : va_G) (cs : Nat → ClassId) (ad : Nat → Nat) (hfl : l.stackTraces = false) (M : Mm) (z : Nat → Int32) (n d : Nat) (hg : gv M 0 (gH 0) z n d) (hn8 : n ≤ 8) (hn1 : 1 ≤ n) (a : Nat) (ha : a < n) (x : Int32) (hbad : wit x (nI 0) (nI n - nI 1) = false) : ∀ sz : Nat, vx_Met l yX7_joined (.code yX7_joined cX7_joined 3 (some .int) :: TT) { frames := 7, cells := 1, slots := 6, locals := 113 } (va_Pc [.ref (ad 117), .int (nI a), .int x] (fun U9 => U9.heap.size = sz ∧ wB D cs ad (fA ad sz) M U9 ∧ xX (fA ad sz) U9 U9.heap)) (va_Qi (fun _ (_ : Mm) => False) (wB D cs ad (fA ad sz)) (fA ad sz)) (vx_X (fun M2 => M2 = M) (fun E9 M2 t => E9 = xQI ∧ wB D cs ad (fA ad sz) M2 t) (fA ad sz)) 1 6 (fA ad sz) := by
  refine sx_I hfl (by decide) (Nat.le_of_ble_eq_true rfl) (fun κ C hN X => ?_)
  refine r_lv (lv2 := [(0, .ref (ad 117)), (1, .int (nI a)), (2, .int x)]) [0, 1, 2] rfl ?_
  refine r_aload_n C dX7_joined_0 rfl 0 rfl ?_
  refine r_iload_n C dX7_joined_1 rfl 1 rfl ?_
  refine r_pcallV_v (nA := 1) C (Nat.le_of_ble_eq_true rfl) [.int (nI a)] (c_X7_checkVertex l D cs ad M  n hg.1 hn8 a (by omega)) (tt_V ml_X7_87 im_X7_checkVertex se_X7_checkVertex in_X7 co_X7_checkVertex) ⟨rfl, rfl⟩ ⟨rfl, by decide, by decide, by decide⟩ ⟨Nat.le_of_ble_eq_true rfl, Nat.le_of_ble_eq_true rfl⟩ (by decide) rfl rfl rfl rfl rfl (Nat.le_of_ble_eq_true rfl) dX7_joined_2 ?_
  refine r_aload_n C dX7_joined_5 rfl 0 rfl ?_
  refine r_iload_n C dX7_joined_6 rfl 2 rfl ?_
  exact r_xcallV_v (nA := 1) C hN X [.int x] (c_X7_checkVertexX l D cs ad hfl M  n hg.1 hn8 hn1 x hbad) (tt_V ml_X7_87 im_X7_checkVertex se_X7_checkVertex in_X7 co_X7_checkVertex) ⟨rfl, rfl⟩ ⟨rfl, by decide, by decide, by decide⟩ ⟨Nat.le_of_ble_eq_true rfl, Nat.le_of_ble_eq_true rfl⟩ (by decide) rfl rfl rfl rfl rfl (Nat.le_of_ble_eq_true rfl) dX7_joined_7 (fun _ h => h)
def lkP (M M2 : Mm) : Prop := ∀ i, ¬ (125 ≤ i ∧ i ≤ 134) → M2.1 i = M.1 i ∧ M2.2 i = M.2 i
theorem sg_lk {z : Nat → Int32} {n : Nat} {M M1 : Mm} (h : sgP z n M M1) : lkP M M1 := fun i hi => ⟨h.1 i (by omega), by rw [h.2.1]⟩
theorem lkP.tr {M M1 M2 : Mm} (h : lkP M M1) (h2 : lkP M1 M2) : lkP M M2 := fun i hi => ⟨(h2 i hi).1.trans (h i hi).1, (h2 i hi).2.trans (h i hi).2⟩
theorem oB_lk {b : Nat} {M M1 : Mm} (h : oB b M M1) (hb : 125 ≤ b ∧ b ≤ 134) : lkP M M1 := fun i hi => ⟨h.1 i (by omega), h.2 i (by omega)⟩
theorem rn_lk {z : Nat → Int32} {n d b size : Nat} {wt U : Nat → Nat} {S : Nat → Nat → Nat} {H : Nat → Nat} {M M1 : Mm} (h : rnA z n d b size wt U S H M M1) : lkP M M1 := fun i hi => h.1 i (by omega)
theorem sg_id {z : Nat → Int32} {n i : Nat} {M M1 : Mm} (h : sgP z n M M1) (hi : ¬ (125 ≤ i ∧ i ≤ 128)) : M1.1 i = M.1 i := h.1 i hi
set_option maxRecDepth 100000 in
set_option maxHeartbeats 4000000 in
theorem c_X7_vertex (l : Launch) (D : va_G) (cs : Nat → ClassId) (ad : Nat → Nat) (M : Mm) (z : Nat → Int32) (n d : Nat) (hg : gv M 0 (gH 0) z n d) (hn8 : n ≤ 8) (hm : gm z n) (mk wt9 : Nat → Nat) (hk : gk z n mk) (hw9 : gw z n wt9) (hsy : gs z n) (hn1 : 1 ≤ n) (v w : Nat) (hv : v < n) (hw : w ≤ 5 ∨ (10 ≤ w ∧ w ≤ 13)) : ∀ sz : Nat, Met l yX7_vertex (.code yX7_vertex cX7_vertex 3 (some .int) :: TT) { frames := 42, cells := 0, slots := 0, locals := 1042 } (va_Pc [.ref (ad 117), .int (nI v), .int (nI w)] (fun U9 => U9.heap.size = sz ∧ wB D cs ad (fA ad sz) M U9 ∧ xX (fA ad sz) U9 U9.heap)) (va_Qi (fun r M2 => r = vnz z n v w ∧ lkP M M2) (wB D cs ad (fA ad sz)) (fA ad sz)) 0 0 (fA ad sz) := by
  refine sn_I (by decide) (Nat.le_of_ble_eq_true rfl) (fun κ C hN E => ?_)
  refine r_lv (lv2 := [(0, .ref (ad 117)), (1, .int (nI v)), (2, .int (nI w))]) [0, 1, 2] rfl ?_
  refine r_aload_n C dX7_vertex_0 rfl 0 rfl ?_
  refine r_iload_n C dX7_vertex_1 rfl 1 rfl ?_
  refine r_pcallV_v (nA := 1) C (Nat.le_of_ble_eq_true rfl) [.int (nI v)] (c_X7_checkVertex l D cs ad M  n hg.1 hn8 v (by omega)) (tt_V ml_X7_87 im_X7_checkVertex se_X7_checkVertex in_X7 co_X7_checkVertex) ⟨rfl, rfl⟩ ⟨rfl, by decide, by decide, by decide⟩ ⟨Nat.le_of_ble_eq_true rfl, Nat.le_of_ble_eq_true rfl⟩ (by decide) rfl rfl rfl rfl rfl (Nat.le_of_ble_eq_true rfl) dX7_vertex_2 ?_
  refine r_iload_n C dX7_vertex_5 rfl 2 rfl ?_
  refine r_if_lt C 26 dX7_vertex_6 (by decide) (fun h6 => ?_) (fun h6 => ?_)
  · exact absurd h6 (nI_n0 (by omega))
  ·
    refine r_iload_n C dX7_vertex_9 rfl 2 rfl ?_
    refine r_bipush C (nI 13) dX7_vertex_10 (by decide) ?_
    refine r_icmpN_gt C 26 dX7_vertex_12 (by decide) (by omega) (by omega) (fun h12 => ?_) (fun h12 => ?_)
    ·
      exfalso; omega
    ·
      refine r_iload_n C dX7_vertex_15 rfl 2 rfl ?_
      refine r_iconst C (nI 5) dX7_vertex_16 (by decide) ?_
      refine r_icmpN_le C 36 dX7_vertex_17 (by decide) (by omega) (by omega) (fun h17 => ?_) (fun h17 => ?_)
      ·
        refine r_aload_n C dX7_vertex_36 rfl 0 rfl ?_
        refine r_callV_v (nA := 0) C (Nat.le_of_ble_eq_true rfl) [] (c_X7_searchGraph l D cs ad M  z n d hg hn8 hm hsy hn1) (tt_V ml_X7_234 im_X7_searchGraph se_X7_searchGraph in_X7 co_X7_searchGraph) ⟨rfl, rfl⟩ ⟨rfl, by decide, by decide, by decide⟩ ⟨Nat.le_of_ble_eq_true rfl, Nat.le_of_ble_eq_true rfl⟩ (by decide) rfl rfl rfl rfl rfl (Nat.le_of_ble_eq_true rfl) dX7_vertex_37 (fun Mu1 qu1 => ?_)
        refine r_aload_n C dX7_vertex_40 rfl 0 rfl ?_
        refine r_iload_n C dX7_vertex_41 rfl 1 rfl ?_
        refine r_iload_n C dX7_vertex_42 rfl 2 rfl ?_
        refine r_pcallV_i (nA := 2) C (Nat.le_of_ble_eq_true rfl) [.int (nI v), .int (nI w)] (c_X7_propertyOf l D cs ad Mu1  z n d (sg_gv qu1 hg hn8) hn8 hm mk wt9 hk hw9 hsy qu1.2.2.2.1 qu1.2.2.2.2 v w hv hw) (tt_V ml_X7_237 im_X7_propertyOf se_X7_propertyOf in_X7 co_X7_propertyOf) ⟨rfl, rfl⟩ ⟨rfl, by decide, by decide, by decide⟩ ⟨Nat.le_of_ble_eq_true rfl, Nat.le_of_ble_eq_true rfl⟩ (by decide) rfl rfl rfl rfl rfl (Nat.le_of_ble_eq_true rfl) dX7_vertex_43 ?_
        exact E 0 _ _ _ _ (Nat.le_of_ble_eq_true rfl) dX7_vertex_46 (⟨rfl, sg_lk qu1⟩)
      ·
        refine r_iload_n C dX7_vertex_20 rfl 2 rfl ?_
        refine r_bipush C (nI 10) dX7_vertex_21 (by decide) ?_
        refine r_icmpN_ge C 36 dX7_vertex_23 (by decide) (by omega) (by omega) (fun h23 => ?_) (fun h23 => ?_)
        ·
          refine r_aload_n C dX7_vertex_36 rfl 0 rfl ?_
          refine r_callV_v (nA := 0) C (Nat.le_of_ble_eq_true rfl) [] (c_X7_searchGraph l D cs ad M  z n d hg hn8 hm hsy hn1) (tt_V ml_X7_234 im_X7_searchGraph se_X7_searchGraph in_X7 co_X7_searchGraph) ⟨rfl, rfl⟩ ⟨rfl, by decide, by decide, by decide⟩ ⟨Nat.le_of_ble_eq_true rfl, Nat.le_of_ble_eq_true rfl⟩ (by decide) rfl rfl rfl rfl rfl (Nat.le_of_ble_eq_true rfl) dX7_vertex_37 (fun Mu2 qu2 => ?_)
          refine r_aload_n C dX7_vertex_40 rfl 0 rfl ?_
          refine r_iload_n C dX7_vertex_41 rfl 1 rfl ?_
          refine r_iload_n C dX7_vertex_42 rfl 2 rfl ?_
          refine r_pcallV_i (nA := 2) C (Nat.le_of_ble_eq_true rfl) [.int (nI v), .int (nI w)] (c_X7_propertyOf l D cs ad Mu2  z n d (sg_gv qu2 hg hn8) hn8 hm mk wt9 hk hw9 hsy qu2.2.2.2.1 qu2.2.2.2.2 v w hv hw) (tt_V ml_X7_237 im_X7_propertyOf se_X7_propertyOf in_X7 co_X7_propertyOf) ⟨rfl, rfl⟩ ⟨rfl, by decide, by decide, by decide⟩ ⟨Nat.le_of_ble_eq_true rfl, Nat.le_of_ble_eq_true rfl⟩ (by decide) rfl rfl rfl rfl rfl (Nat.le_of_ble_eq_true rfl) dX7_vertex_43 ?_
          exact E 0 _ _ _ _ (Nat.le_of_ble_eq_true rfl) dX7_vertex_46 (⟨rfl, sg_lk qu2⟩)
        ·
          exfalso; omega
set_option maxRecDepth 100000 in
set_option maxHeartbeats 4000000 in
theorem c_X7_vertexX (l : Launch) (D : va_G) (cs : Nat → ClassId) (ad : Nat → Nat) (hfl : l.stackTraces = false) (M : Mm) (z : Nat → Int32) (n d : Nat) (hg : gv M 0 (gH 0) z n d) (hn8 : n ≤ 8) (hn1 : 1 ≤ n) (x y : Int32) (hbad : wit x (nI 0) (nI n - nI 1) = false) : ∀ sz : Nat, vx_Met l yX7_vertex (.code yX7_vertex cX7_vertex 3 (some .int) :: TT) { frames := 7, cells := 1, slots := 6, locals := 113 } (va_Pc [.ref (ad 117), .int x, .int y] (fun U9 => U9.heap.size = sz ∧ wB D cs ad (fA ad sz) M U9 ∧ xX (fA ad sz) U9 U9.heap)) (va_Qi (fun _ (_ : Mm) => False) (wB D cs ad (fA ad sz)) (fA ad sz)) (vx_X (fun M2 => M2 = M) (fun E9 M2 t => E9 = xQI ∧ wB D cs ad (fA ad sz) M2 t) (fA ad sz)) 1 6 (fA ad sz) := by
  refine sx_I hfl (by decide) (Nat.le_of_ble_eq_true rfl) (fun κ C hN X => ?_)
  refine r_lv (lv2 := [(0, .ref (ad 117)), (1, .int x), (2, .int y)]) [0, 1, 2] rfl ?_
  refine r_aload_n C dX7_vertex_0 rfl 0 rfl ?_
  refine r_iload_n C dX7_vertex_1 rfl 1 rfl ?_
  exact r_xcallV_v (nA := 1) C hN X [.int x] (c_X7_checkVertexX l D cs ad hfl M  n hg.1 hn8 hn1 x hbad) (tt_V ml_X7_87 im_X7_checkVertex se_X7_checkVertex in_X7 co_X7_checkVertex) ⟨rfl, rfl⟩ ⟨rfl, by decide, by decide, by decide⟩ ⟨Nat.le_of_ble_eq_true rfl, Nat.le_of_ble_eq_true rfl⟩ (by decide) rfl rfl rfl rfl rfl (Nat.le_of_ble_eq_true rfl) dX7_vertex_2 (fun _ h => h)
set_option maxRecDepth 100000 in
set_option maxHeartbeats 4000000 in
theorem c_X7_vertexY (l : Launch) (D : va_G) (cs : Nat → ClassId) (ad : Nat → Nat) (hfl : l.stackTraces = false) (M : Mm) (z : Nat → Int32) (n d : Nat) (hg : gv M 0 (gH 0) z n d) (hn8 : n ≤ 8) (v : Nat) (hv : v < n) (y : Int32) (hb1 : wit y (nI 0) (nI 5) = false) (hb2 : wit y (nI 10) (nI 13) = false) : ∀ sz : Nat, vx_Met l yX7_vertex (.code yX7_vertex cX7_vertex 3 (some .int) :: TT) { frames := 6, cells := 1, slots := 6, locals := 92 } (va_Pc [.ref (ad 117), .int (nI v), .int y] (fun U9 => U9.heap.size = sz ∧ wB D cs ad (fA ad sz) M U9 ∧ xX (fA ad sz) U9 U9.heap)) (va_Qi (fun _ (_ : Mm) => False) (wB D cs ad (fA ad sz)) (fA ad sz)) (vx_X (fun M2 => M2 = M) (fun E9 M2 t => E9 = xQA ∧ wB D cs ad (fA ad sz) M2 t) (fA ad sz)) 1 6 (fA ad sz) := by
  refine sx_I hfl (by decide) (Nat.le_of_ble_eq_true rfl) (fun κ C hN X => ?_)
  refine r_lv (lv2 := [(0, .ref (ad 117)), (1, .int (nI v)), (2, .int y)]) [0, 1, 2] rfl ?_
  refine r_aload_n C dX7_vertex_0 rfl 0 rfl ?_
  refine r_iload_n C dX7_vertex_1 rfl 1 rfl ?_
  refine r_pcallV_v (nA := 1) C (Nat.le_of_ble_eq_true rfl) [.int (nI v)] (c_X7_checkVertex l D cs ad M  n hg.1 hn8 v (by omega)) (tt_V ml_X7_87 im_X7_checkVertex se_X7_checkVertex in_X7 co_X7_checkVertex) ⟨rfl, rfl⟩ ⟨rfl, by decide, by decide, by decide⟩ ⟨Nat.le_of_ble_eq_true rfl, Nat.le_of_ble_eq_true rfl⟩ (by decide) rfl rfl rfl rfl rfl (Nat.le_of_ble_eq_true rfl) dX7_vertex_2 ?_
  refine r_iload_n C dX7_vertex_5 rfl 2 rfl ?_
  refine r_if_lt C 26 dX7_vertex_6 (by decide) (fun h6 => ?_) (fun h6 => ?_)
  ·
    exact r_throw C hN X (by decide) (show (232, "no such property") ∈ xTx from List.mem_of_getElem? (i := 16) rfl) xl_A xi_A xw_A xg_A dX7_vertex_26 dX7_vertex_29 dX7_vertex_30 dX7_vertex_32 dX7_vertex_35 (Nat.le_of_ble_eq_true rfl) (Nat.le_of_ble_eq_true rfl) rfl
  ·
    refine r_iload_n C dX7_vertex_9 rfl 2 rfl ?_
    refine r_bipush C (nI 13) dX7_vertex_10 (by decide) ?_
    refine r_icmp_gt C 26 dX7_vertex_12 (by decide) (fun h12 => ?_) (fun h12 => ?_)
    ·
      exact r_throw C hN X (by decide) (show (232, "no such property") ∈ xTx from List.mem_of_getElem? (i := 16) rfl) xl_A xi_A xw_A xg_A dX7_vertex_26 dX7_vertex_29 dX7_vertex_30 dX7_vertex_32 dX7_vertex_35 (Nat.le_of_ble_eq_true rfl) (Nat.le_of_ble_eq_true rfl) rfl
    ·
      refine r_iload_n C dX7_vertex_15 rfl 2 rfl ?_
      refine r_iconst C (nI 5) dX7_vertex_16 (by decide) ?_
      refine r_icmp_le C 36 dX7_vertex_17 (by decide) (fun h17 => ?_) (fun h17 => ?_)
      ·
        exact (wit_nn hb1 h6 h17).elim
      ·
        refine r_iload_n C dX7_vertex_20 rfl 2 rfl ?_
        refine r_bipush C (nI 10) dX7_vertex_21 (by decide) ?_
        refine r_icmp_ge C 36 dX7_vertex_23 (by decide) (fun h23 => ?_) (fun h23 => ?_)
        ·
          exact (wit_nn hb2 (Int32.not_lt.mpr h23) (Int32.not_lt.mp h12)).elim
        ·
          exact r_throw C hN X (by decide) (show (232, "no such property") ∈ xTx from List.mem_of_getElem? (i := 16) rfl) xl_A xi_A xw_A xg_A dX7_vertex_26 dX7_vertex_29 dX7_vertex_30 dX7_vertex_32 dX7_vertex_35 (Nat.le_of_ble_eq_true rfl) (Nat.le_of_ble_eq_true rfl) rfl
set_option maxRecDepth 100000 in
set_option maxHeartbeats 4000000 in
theorem c_X7_handle (l : Launch) (D : va_G) (cs : Nat → ClassId) (ad : Nat → Nat) (M : Mm) (z : Nat → Int32) (n d : Nat) (hg : gv M 0 (gH 0) z n d) (hn8 : n ≤ 8) (hd4 : d ≤ 4) (p : Nat) (hp : p < d) : ∀ sz : Nat, Met l yX7_handle (.code yX7_handle cX7_handle 2 (some .int) :: TT) { frames := 1, cells := 0, slots := 0, locals := 21 } (va_Pc [.ref (ad 117), .int (nI p)] (fun U9 => U9.heap.size = sz ∧ wB D cs ad (fA ad sz) M U9 ∧ xX (fA ad sz) U9 U9.heap)) (va_Qi (fun r M2 => r = z (50 + p) ∧ M2 = M) (wB D cs ad (fA ad sz)) (fA ad sz)) 0 0 (fA ad sz) := by
  refine sn_I (by decide) (Nat.le_of_ble_eq_true rfl) (fun κ C hN E => ?_)
  refine r_lv (lv2 := [(0, .ref (ad 117)), (1, .int (nI p))]) [0, 1] rfl ?_
  refine r_aload_n C dX7_handle_0 rfl 0 rfl ?_
  refine r_iload_n C dX7_handle_1 rfl 1 rfl ?_
  refine r_pcallV_v (nA := 1) C (Nat.le_of_ble_eq_true rfl) [.int (nI p)] (c_X7_checkPlace l D cs ad M  d hg.2.1 hd4 p (by omega)) (tt_V ml_X7_135 im_X7_checkPlace se_X7_checkPlace in_X7 co_X7_checkPlace) ⟨rfl, rfl⟩ ⟨rfl, by decide, by decide, by decide⟩ ⟨Nat.le_of_ble_eq_true rfl, Nat.le_of_ble_eq_true rfl⟩ (by decide) rfl rfl rfl rfl rfl (Nat.le_of_ble_eq_true rfl) dX7_handle_2 ?_
  refine r_aload_n C dX7_handle_5 rfl 0 rfl ?_
  refine r_get C (Cn := RX7) (T := TX7) (N := 10) (id := 117) (by decide) inw_X7 rfl rfl 0 (by decide) rfl fl_X7_12 rfl dX7_handle_6 ?_
  refine r_get C (Cn := RX4) (T := TX4) (N := 6) (id := (gO 0)) (by simp only [gO, gN, gW, gL, gR, gH] <;> omega) inw_X4 (wF_O cs ad (by decide) _ _) rfl 5 (by decide) rfl fl_X7_145 rfl dX7_handle_9 ?_
  refine r_iload_n C dX7_handle_12 rfl 1 rfl ?_
  refine r_iald C (id := (gH 0)) (n := 4) (a := p) (by simp only [gO, gN, gW, gL, gR, gH] <;> omega) (wF_H cs ad (by decide) _ _) (by omega) (by decide) dX7_handle_13 ?_
  refine r_topi (w := (z (50 + p))) (hg.2.2.2.2.2 p (by omega)) ?_
  exact E 0 _ _ _ _ (Nat.le_of_ble_eq_true rfl) dX7_handle_14 (⟨rfl, rfl⟩)
set_option maxRecDepth 100000 in
set_option maxHeartbeats 4000000 in
theorem c_X7_handleX (l : Launch) (D : va_G) (cs : Nat → ClassId) (ad : Nat → Nat) (hfl : l.stackTraces = false) (M : Mm) (z : Nat → Int32) (n d : Nat) (hg : gv M 0 (gH 0) z n d) (hn8 : n ≤ 8) (hd4 : d ≤ 4) (hd1 : 1 ≤ d) (x : Int32) (hbad : wit x (nI 0) (nI d - nI 1) = false) : ∀ sz : Nat, vx_Met l yX7_handle (.code yX7_handle cX7_handle 2 (some .int) :: TT) { frames := 7, cells := 1, slots := 6, locals := 113 } (va_Pc [.ref (ad 117), .int x] (fun U9 => U9.heap.size = sz ∧ wB D cs ad (fA ad sz) M U9 ∧ xX (fA ad sz) U9 U9.heap)) (va_Qi (fun _ (_ : Mm) => False) (wB D cs ad (fA ad sz)) (fA ad sz)) (vx_X (fun M2 => M2 = M) (fun E9 M2 t => E9 = xQI ∧ wB D cs ad (fA ad sz) M2 t) (fA ad sz)) 1 6 (fA ad sz) := by
  refine sx_I hfl (by decide) (Nat.le_of_ble_eq_true rfl) (fun κ C hN X => ?_)
  refine r_lv (lv2 := [(0, .ref (ad 117)), (1, .int x)]) [0, 1] rfl ?_
  refine r_aload_n C dX7_handle_0 rfl 0 rfl ?_
  refine r_iload_n C dX7_handle_1 rfl 1 rfl ?_
  exact r_xcallV_v (nA := 1) C hN X [.int x] (c_X7_checkPlaceX l D cs ad hfl M  d hg.2.1 hd4 hd1 x hbad) (tt_V ml_X7_135 im_X7_checkPlace se_X7_checkPlace in_X7 co_X7_checkPlace) ⟨rfl, rfl⟩ ⟨rfl, by decide, by decide, by decide⟩ ⟨Nat.le_of_ble_eq_true rfl, Nat.le_of_ble_eq_true rfl⟩ (by decide) rfl rfl rfl rfl rfl (Nat.le_of_ble_eq_true rfl) dX7_handle_2 (fun _ h => h)
set_option maxRecDepth 100000 in
set_option maxHeartbeats 4000000 in
theorem c_X7_bound (l : Launch) (D : va_G) (cs : Nat → ClassId) (ad : Nat → Nat) (M : Mm) (z : Nat → Int32) (n d : Nat) (hg : gv M 0 (gH 0) z n d) (hn8 : n ≤ 8) (hm : gm z n) (mk : Nat → Nat) (hk : gk z n mk) (wt U S : Nat → Nat) (H : Nat) (hBr : rsz z n = nI 0 → bnH z n wt U S H) (hpo : rsz z n = nI 0 → hpos n wt U H) (p : Nat) (hp : p ≤ 2) : ∀ sz : Nat, Met l yX7_bound (.code yX7_bound cX7_bound 2 (some .long) :: TT) { frames := 5, cells := 0, slots := 0, locals := 109 } (va_Pc [.ref (ad 117), .int (nI p)] (fun U9 => U9.heap.size = sz ∧ wB D cs ad (fA ad sz) M U9 ∧ xX (fA ad sz) U9 U9.heap)) (va_Ql (fun r M2 => r = bdz z n wt U S H p ∧ lkP M M2) (wB D cs ad (fA ad sz)) (fA ad sz)) 0 0 (fA ad sz) := by
  refine sn_L (by decide) (Nat.le_of_ble_eq_true rfl) (fun κ C hN E => ?_)
  refine r_lv (lv2 := [(0, .ref (ad 117)), (1, .int (nI p))]) [0, 1] rfl ?_
  refine r_iload_n C dX7_bound_0 rfl 1 rfl ?_
  refine r_pcallS_v (nA := 1) C (Nat.le_of_ble_eq_true rfl) [.int (nI p)] (c_X7_checkPart l D cs ad M  p hp) (tt_S ml_X7_241 st_X7_checkPart in_X7 co_X7_checkPart) ⟨rfl, rfl⟩ ⟨rfl, by decide, by decide, by decide⟩ ⟨Nat.le_of_ble_eq_true rfl, Nat.le_of_ble_eq_true rfl⟩ rfl rfl (Nat.le_of_ble_eq_true rfl) dX7_bound_1 ?_
  refine r_aload_n C dX7_bound_4 rfl 0 rfl ?_
  refine r_get C (Cn := RX7) (T := TX7) (N := 10) (id := 117) (by decide) inw_X7 rfl rfl 7 (by decide) rfl fl_X7_55 rfl dX7_bound_5 ?_
  refine r_aload_n C dX7_bound_8 rfl 0 rfl ?_
  refine r_get C (Cn := RX7) (T := TX7) (N := 10) (id := 117) (by decide) inw_X7 rfl rfl 0 (by decide) rfl fl_X7_12 rfl dX7_bound_9 ?_
  refine r_ncallV_v (nA := 1) C hN (Nat.le_of_ble_eq_true rfl) [.ref (ad (gO 0))] (c_X0_tellA l D cs ad M  129 (by decide) (by decide) (fun _ _ => rfl) z n d hg hn8 hm mk hk wt U S H hBr hpo) (tt_V ml_X7_244 im_X0_tellOf se_X0_tellOf in_X0 co_X0_tellOf) ⟨rfl, rfl⟩ ⟨rfl, by decide, by decide, by decide⟩ ⟨Nat.le_of_ble_eq_true rfl, Nat.le_of_ble_eq_true rfl⟩ (by decide) rfl rfl rfl rfl rfl (Nat.le_of_ble_eq_true rfl) dX7_bound_12 (fun Mu1 qu1 => ?_)
  refine r_aload_n C dX7_bound_15 rfl 0 rfl ?_
  refine r_get C (Cn := RX7) (T := TX7) (N := 10) (id := 117) (by decide) inw_X7 rfl rfl 7 (by decide) rfl fl_X7_55 rfl dX7_bound_16 ?_
  refine r_iload_n C dX7_bound_19 rfl 1 rfl ?_
  refine r_pcallV_l (nA := 1) C (Nat.le_of_ble_eq_true rfl) [.int (nI p)] (c_X0_partOf l D cs ad Mu1  129 (by decide) (fun _ _ => rfl) p (by omega) _ _ _ rfl rfl rfl) (tt_V ml_X7_247 im_X0_partOf se_X0_partOf in_X0 co_X0_partOf) ⟨rfl, rfl⟩ ⟨rfl, by decide, by decide, by decide⟩ ⟨Nat.le_of_ble_eq_true rfl, Nat.le_of_ble_eq_true rfl⟩ (by decide) rfl rfl rfl rfl rfl (Nat.le_of_ble_eq_true rfl) dX7_bound_20 ?_
  exact E 0 _ _ _ _ (Nat.le_of_ble_eq_true rfl) dX7_bound_23 (⟨tl_p qu1.2, oB_lk qu1.1 (by decide)⟩)
set_option maxRecDepth 100000 in
set_option maxHeartbeats 4000000 in
theorem c_X7_boundX (l : Launch) (D : va_G) (cs : Nat → ClassId) (ad : Nat → Nat) (hfl : l.stackTraces = false) (M : Mm) (x : Int32) (hbad : wit x (nI 0) (nI 2) = false) : ∀ sz : Nat, vx_Met l yX7_bound (.code yX7_bound cX7_bound 2 (some .long) :: TT) { frames := 7, cells := 1, slots := 6, locals := 112 } (va_Pc [.ref (ad 117), .int x] (fun U9 => U9.heap.size = sz ∧ wB D cs ad (fA ad sz) M U9 ∧ xX (fA ad sz) U9 U9.heap)) (va_Ql (fun _ (_ : Mm) => False) (wB D cs ad (fA ad sz)) (fA ad sz)) (vx_X (fun M2 => M2 = M) (fun E9 M2 t => E9 = xQA ∧ wB D cs ad (fA ad sz) M2 t) (fA ad sz)) 1 6 (fA ad sz) := by
  refine sx_L hfl (by decide) (Nat.le_of_ble_eq_true rfl) (fun κ C hN X => ?_)
  refine r_lv (lv2 := [(0, .ref (ad 117)), (1, .int x)]) [0, 1] rfl ?_
  refine r_iload_n C dX7_bound_0 rfl 1 rfl ?_
  exact r_xcallS_v (nA := 1) C hN X [.int x] (c_X7_checkPartX l D cs ad hfl M  x hbad) (tt_S ml_X7_241 st_X7_checkPart in_X7 co_X7_checkPart) ⟨rfl, rfl⟩ ⟨rfl, by decide, by decide, by decide⟩ ⟨Nat.le_of_ble_eq_true rfl, Nat.le_of_ble_eq_true rfl⟩ rfl rfl (Nat.le_of_ble_eq_true rfl) dX7_bound_1 (fun _ h => h)
set_option maxRecDepth 100000 in
set_option maxHeartbeats 4000000 in
theorem c_X7_whyNot (l : Launch) (D : va_G) (cs : Nat → ClassId) (ad : Nat → Nat) (M : Mm) (z : Nat → Int32) (n d : Nat) (hg : gv M 0 (gH 0) z n d) (hn8 : n ≤ 8) (hm : gm z n) (mk : Nat → Nat) (hk : gk z n mk) (p : Nat) (hp : p ≤ 2) : ∀ sz : Nat, Met l yX7_whyNot (.code yX7_whyNot cX7_whyNot 2 (some .int) :: TT) { frames := 5, cells := 0, slots := 0, locals := 111 } (va_Pc [.ref (ad 117), .int (nI p)] (fun U9 => U9.heap.size = sz ∧ wB D cs ad (fA ad sz) M U9 ∧ xX (fA ad sz) U9 U9.heap)) (va_Qi (fun r M2 => r = rnz z n p ∧ M2 = M) (wB D cs ad (fA ad sz)) (fA ad sz)) 0 0 (fA ad sz) := by
  refine sn_I (by decide) (Nat.le_of_ble_eq_true rfl) (fun κ C hN E => ?_)
  refine r_lv (lv2 := [(0, .ref (ad 117)), (1, .int (nI p))]) [0, 1] rfl ?_
  refine r_iload_n C dX7_whyNot_0 rfl 1 rfl ?_
  refine r_pcallS_v (nA := 1) C (Nat.le_of_ble_eq_true rfl) [.int (nI p)] (c_X7_checkPart l D cs ad M  p hp) (tt_S ml_X7_241 st_X7_checkPart in_X7 co_X7_checkPart) ⟨rfl, rfl⟩ ⟨rfl, by decide, by decide, by decide⟩ ⟨Nat.le_of_ble_eq_true rfl, Nat.le_of_ble_eq_true rfl⟩ rfl rfl (Nat.le_of_ble_eq_true rfl) dX7_whyNot_1 ?_
  refine r_aload_n C dX7_whyNot_4 rfl 0 rfl ?_
  refine r_iload_n C dX7_whyNot_5 rfl 1 rfl ?_
  refine r_npcallV_i (nA := 1) C hN (Nat.le_of_ble_eq_true rfl) [.int (nI p)] (c_X7_whyNoBound l D cs ad M  z n d hg hn8 hm mk hk p (by omega)) (tt_V ml_X7_251 im_X7_whyNoBound se_X7_whyNoBound in_X7 co_X7_whyNoBound) ⟨rfl, rfl⟩ ⟨rfl, by decide, by decide, by decide⟩ ⟨Nat.le_of_ble_eq_true rfl, Nat.le_of_ble_eq_true rfl⟩ (by decide) rfl rfl rfl rfl rfl (Nat.le_of_ble_eq_true rfl) dX7_whyNot_6 ?_
  exact E 0 _ _ _ _ (Nat.le_of_ble_eq_true rfl) dX7_whyNot_9 (⟨rfl, rfl⟩)
set_option maxRecDepth 100000 in
set_option maxHeartbeats 4000000 in
theorem c_X7_whyNotX (l : Launch) (D : va_G) (cs : Nat → ClassId) (ad : Nat → Nat) (hfl : l.stackTraces = false) (M : Mm) (x : Int32) (hbad : wit x (nI 0) (nI 2) = false) : ∀ sz : Nat, vx_Met l yX7_whyNot (.code yX7_whyNot cX7_whyNot 2 (some .int) :: TT) { frames := 7, cells := 1, slots := 6, locals := 112 } (va_Pc [.ref (ad 117), .int x] (fun U9 => U9.heap.size = sz ∧ wB D cs ad (fA ad sz) M U9 ∧ xX (fA ad sz) U9 U9.heap)) (va_Qi (fun _ (_ : Mm) => False) (wB D cs ad (fA ad sz)) (fA ad sz)) (vx_X (fun M2 => M2 = M) (fun E9 M2 t => E9 = xQA ∧ wB D cs ad (fA ad sz) M2 t) (fA ad sz)) 1 6 (fA ad sz) := by
  refine sx_I hfl (by decide) (Nat.le_of_ble_eq_true rfl) (fun κ C hN X => ?_)
  refine r_lv (lv2 := [(0, .ref (ad 117)), (1, .int x)]) [0, 1] rfl ?_
  refine r_iload_n C dX7_whyNot_0 rfl 1 rfl ?_
  exact r_xcallS_v (nA := 1) C hN X [.int x] (c_X7_checkPartX l D cs ad hfl M  x hbad) (tt_S ml_X7_241 st_X7_checkPart in_X7 co_X7_checkPart) ⟨rfl, rfl⟩ ⟨rfl, by decide, by decide, by decide⟩ ⟨Nat.le_of_ble_eq_true rfl, Nat.le_of_ble_eq_true rfl⟩ rfl rfl (Nat.le_of_ble_eq_true rfl) dX7_whyNot_1 (fun _ h => h)
set_option maxRecDepth 100000 in
set_option maxHeartbeats 4000000 in
theorem c_X7_whyNotMultiply (l : Launch) (D : va_G) (cs : Nat → ClassId) (ad : Nat → Nat) (M : Mm) (z : Nat → Int32) (n d : Nat) (hg : gv M 0 (gH 0) z n d) (hn8 : n ≤ 8) (q : Nat) (hq : q ≤ 1) (ht : M.1 119 q = nI 1) (y : Nat → Int32) (n2 d2 : Nat) (hy : gv M (1 + q) (gH (1 + q)) y n2 d2) (hn28 : n2 ≤ 8) (hd4 : d ≤ 4) (hd24 : d2 ≤ 4) (N9 dd : Nat) (hNN : n * n2 = N9) (hdd : d * d2 = dd) : ∀ sz : Nat, Met l yX7_whyNotMultiply (.code yX7_whyNotMultiply cX7_whyNotMultiply 2 (some .int) :: TT) { frames := 4, cells := 0, slots := 0, locals := 86 } (va_Pc [.ref (ad 117), .int (nI q)] (fun U9 => U9.heap.size = sz ∧ wB D cs ad (fA ad sz) M U9 ∧ xX (fA ad sz) U9 U9.heap)) (va_Qi (fun r M2 => r = rzI z y n n2 N9 dd ∧ M2 = M) (wB D cs ad (fA ad sz)) (fA ad sz)) 0 0 (fA ad sz) := by
  refine sn_I (by decide) (Nat.le_of_ble_eq_true rfl) (fun κ C hN E => ?_)
  refine r_lv (lv2 := [(0, .ref (ad 117)), (1, .int (nI q))]) [0, 1] rfl ?_
  refine r_aload_n C dX7_whyNotMultiply_0 rfl 0 rfl ?_
  refine r_iload_n C dX7_whyNotMultiply_1 rfl 1 rfl ?_
  refine r_pcallV_v (nA := 1) C (Nat.le_of_ble_eq_true rfl) [.int (nI q)] (c_X7_checkTaken l D cs ad M  q hq ht) (tt_V ml_X7_118 im_X7_checkTaken se_X7_checkTaken in_X7 co_X7_checkTaken) ⟨rfl, rfl⟩ ⟨rfl, by decide, by decide, by decide⟩ ⟨Nat.le_of_ble_eq_true rfl, Nat.le_of_ble_eq_true rfl⟩ (by decide) rfl rfl rfl rfl rfl (Nat.le_of_ble_eq_true rfl) dX7_whyNotMultiply_2 ?_
  refine r_aload_n C dX7_whyNotMultiply_5 rfl 0 rfl ?_
  refine r_get C (Cn := RX7) (T := TX7) (N := 10) (id := 117) (by decide) inw_X7 rfl rfl 0 (by decide) rfl fl_X7_12 rfl dX7_whyNotMultiply_6 ?_
  refine r_aload_n C dX7_whyNotMultiply_9 rfl 0 rfl ?_
  refine r_get C (Cn := RX7) (T := TX7) (N := 10) (id := 117) (by decide) inw_X7 rfl rfl 1 (by decide) rfl fl_X7_16 rfl dX7_whyNotMultiply_10 ?_
  refine r_iload_n C dX7_whyNotMultiply_13 rfl 1 rfl ?_
  refine r_aald C (id := 118) (n := 2) (a := q) (id2 := (gO (1 + q))) (t0 := 5) (by decide) rfl rfl rfl (by omega) (by decide) (if_pos (by omega)) dX7_whyNotMultiply_14 ?_
  refine r_npcallS_i (nA := 2) C hN (Nat.le_of_ble_eq_true rfl) [.ref (ad (gO 0)), .ref (ad (gO (1 + q)))] (c_X7_reasonAgainst l D cs ad M  z n d hg hn8 (1 + q) (by omega) y n2 d2 hy hn28 hd4 hd24 N9 dd hNN hdd) (tt_S ml_X7_121 st_X7_reasonAgainst in_X7 co_X7_reasonAgainst) ⟨rfl, rfl⟩ ⟨rfl, by decide, by decide, by decide⟩ ⟨Nat.le_of_ble_eq_true rfl, Nat.le_of_ble_eq_true rfl⟩ rfl rfl (Nat.le_of_ble_eq_true rfl) dX7_whyNotMultiply_15 ?_
  exact E 0 _ _ _ _ (Nat.le_of_ble_eq_true rfl) dX7_whyNotMultiply_18 (⟨rfl, rfl⟩)
set_option maxRecDepth 100000 in
set_option maxHeartbeats 4000000 in
theorem c_X7_whyNotMultiplyX (l : Launch) (D : va_G) (cs : Nat → ClassId) (ad : Nat → Nat) (hfl : l.stackTraces = false) (M : Mm) (x : Int32) (hbad : wit x (nI 0) (nI 1) = false) : ∀ sz : Nat, vx_Met l yX7_whyNotMultiply (.code yX7_whyNotMultiply cX7_whyNotMultiply 2 (some .int) :: TT) { frames := 8, cells := 1, slots := 6, locals := 134 } (va_Pc [.ref (ad 117), .int x] (fun U9 => U9.heap.size = sz ∧ wB D cs ad (fA ad sz) M U9 ∧ xX (fA ad sz) U9 U9.heap)) (va_Qi (fun _ (_ : Mm) => False) (wB D cs ad (fA ad sz)) (fA ad sz)) (vx_X (fun M2 => M2 = M) (fun E9 M2 t => E9 = xQI ∧ wB D cs ad (fA ad sz) M2 t) (fA ad sz)) 1 6 (fA ad sz) := by
  refine sx_I hfl (by decide) (Nat.le_of_ble_eq_true rfl) (fun κ C hN X => ?_)
  refine r_lv (lv2 := [(0, .ref (ad 117)), (1, .int x)]) [0, 1] rfl ?_
  refine r_aload_n C dX7_whyNotMultiply_0 rfl 0 rfl ?_
  refine r_iload_n C dX7_whyNotMultiply_1 rfl 1 rfl ?_
  exact r_xcallV_v (nA := 1) C hN X [.int x] (c_X7_checkTakenX l D cs ad hfl M  x hbad) (tt_V ml_X7_118 im_X7_checkTaken se_X7_checkTaken in_X7 co_X7_checkTaken) ⟨rfl, rfl⟩ ⟨rfl, by decide, by decide, by decide⟩ ⟨Nat.le_of_ble_eq_true rfl, Nat.le_of_ble_eq_true rfl⟩ (by decide) rfl rfl rfl rfl rfl (Nat.le_of_ble_eq_true rfl) dX7_whyNotMultiply_2 (fun _ h => h)
set_option maxRecDepth 100000 in
set_option maxHeartbeats 4000000 in
theorem c_X7_whyNotMultiplyF (l : Launch) (D : va_G) (cs : Nat → ClassId) (ad : Nat → Nat) (hfl : l.stackTraces = false) (M : Mm) (q : Nat) (hq : q ≤ 1) (ht : M.1 119 q = nI 0) : ∀ sz : Nat, vx_Met l yX7_whyNotMultiply (.code yX7_whyNotMultiply cX7_whyNotMultiply 2 (some .int) :: TT) { frames := 7, cells := 1, slots := 6, locals := 113 } (va_Pc [.ref (ad 117), .int (nI q)] (fun U9 => U9.heap.size = sz ∧ wB D cs ad (fA ad sz) M U9 ∧ xX (fA ad sz) U9 U9.heap)) (va_Qi (fun _ (_ : Mm) => False) (wB D cs ad (fA ad sz)) (fA ad sz)) (vx_X (fun M2 => M2 = M) (fun E9 M2 t => E9 = xQS ∧ wB D cs ad (fA ad sz) M2 t) (fA ad sz)) 1 6 (fA ad sz) := by
  refine sx_I hfl (by decide) (Nat.le_of_ble_eq_true rfl) (fun κ C hN X => ?_)
  refine r_lv (lv2 := [(0, .ref (ad 117)), (1, .int (nI q))]) [0, 1] rfl ?_
  refine r_aload_n C dX7_whyNotMultiply_0 rfl 0 rfl ?_
  refine r_iload_n C dX7_whyNotMultiply_1 rfl 1 rfl ?_
  exact r_xcallV_v (nA := 1) C hN X [.int (nI q)] (c_X7_checkTakenF l D cs ad hfl M  q hq ht) (tt_V ml_X7_118 im_X7_checkTaken se_X7_checkTaken in_X7 co_X7_checkTaken) ⟨rfl, rfl⟩ ⟨rfl, by decide, by decide, by decide⟩ ⟨Nat.le_of_ble_eq_true rfl, Nat.le_of_ble_eq_true rfl⟩ (by decide) rfl rfl rfl rfl rfl (Nat.le_of_ble_eq_true rfl) dX7_whyNotMultiply_2 (fun _ h => h)
set_option maxRecDepth 100000 in
set_option maxHeartbeats 4000000 in
theorem c_X7_bestHandle (l : Launch) (D : va_G) (cs : Nat → ClassId) (ad : Nat → Nat) (M : Mm) (z : Nat → Int32) (n d : Nat) (hg : gv M 0 (gH 0) z n d) (hn8 : n ≤ 8) (hm : gm z n) (hd4 : d ≤ 4) (size bb : Nat) (hbb : 2 * size + 1 = bb) (hs1 : 1 ≤ size) (hs2 : size ≤ 2) (mk : Nat → Nat) (hk : gk z n mk) (hz0 : ∀ p, d ≤ p → p < 4 → z (50 + p) = nI 0) (wt U : Nat → Nat) (S : Nat → Nat → Nat) (H : Nat → Nat) (hBB : lbHyp z n d bb size wt U S H) (hpB : ∀ c, c < bb ^ d → upR (hnR z d c bb size d) n = -1 → hpos n wt U (H c)) (w : Nat) (hw : w ≤ 1 ∨ (10 ≤ w ∧ w ≤ 13)) : ∀ sz : Nat, Met l yX7_bestHandle (.code yX7_bestHandle cX7_bestHandle 3 (some .long) :: TT) { frames := 5, cells := 0, slots := 0, locals := 112 } (va_Pc [.ref (ad 117), .int (nI size), .int (nI w)] (fun U9 => U9.heap.size = sz ∧ wB D cs ad (fA ad sz) M U9 ∧ xX (fA ad sz) U9 U9.heap)) (va_Ql (fun r M2 => r = bhz z n d bb size wt U S H w ∧ lkP M M2) (wB D cs ad (fA ad sz)) (fA ad sz)) 0 0 (fA ad sz) := by
  refine sn_L (by decide) (Nat.le_of_ble_eq_true rfl) (fun κ C hN E => ?_)
  refine r_lv (lv2 := [(0, .ref (ad 117)), (1, .int (nI size)), (2, .int (nI w))]) [0, 1, 2] rfl ?_
  refine r_iload_n C dX7_bestHandle_0 rfl 1 rfl ?_
  refine r_pcallS_v (nA := 1) C (Nat.le_of_ble_eq_true rfl) [.int (nI size)] (c_X7_checkSize l D cs ad M  size hs1 hs2) (tt_S ml_X7_164 st_X7_checkSize in_X7 co_X7_checkSize) ⟨rfl, rfl⟩ ⟨rfl, by decide, by decide, by decide⟩ ⟨Nat.le_of_ble_eq_true rfl, Nat.le_of_ble_eq_true rfl⟩ rfl rfl (Nat.le_of_ble_eq_true rfl) dX7_bestHandle_1 ?_
  refine r_iload_n C dX7_bestHandle_4 rfl 2 rfl ?_
  refine r_if_lt C 25 dX7_bestHandle_5 (by decide) (fun h5 => ?_) (fun h5 => ?_)
  · exact absurd h5 (nI_n0 (by omega))
  ·
    refine r_iload_n C dX7_bestHandle_8 rfl 2 rfl ?_
    refine r_bipush C (nI 13) dX7_bestHandle_9 (by decide) ?_
    refine r_icmpN_gt C 25 dX7_bestHandle_11 (by decide) (by omega) (by omega) (fun h11 => ?_) (fun h11 => ?_)
    ·
      exfalso; omega
    ·
      refine r_iload_n C dX7_bestHandle_14 rfl 2 rfl ?_
      refine r_iconst C (nI 1) dX7_bestHandle_15 (by decide) ?_
      refine r_icmpN_le C 35 dX7_bestHandle_16 (by decide) (by omega) (by omega) (fun h16 => ?_) (fun h16 => ?_)
      ·
        refine r_aload_n C dX7_bestHandle_35 rfl 0 rfl ?_
        refine r_get C (Cn := RX7) (T := TX7) (N := 10) (id := 117) (by decide) inw_X7 rfl rfl 8 (by decide) rfl fl_X7_62 rfl dX7_bestHandle_36 ?_
        refine r_aload_n C dX7_bestHandle_39 rfl 0 rfl ?_
        refine r_get C (Cn := RX7) (T := TX7) (N := 10) (id := 117) (by decide) inw_X7 rfl rfl 0 (by decide) rfl fl_X7_12 rfl dX7_bestHandle_40 ?_
        refine r_iload_n C dX7_bestHandle_43 rfl 1 rfl ?_
        refine r_ncallV_v (nA := 2) C hN (Nat.le_of_ble_eq_true rfl) [.ref (ad (gO 0)), .int (nI size)] (c_X5_runA l D cs ad M  z n d hg hn8 hm hd4 size bb hbb hs1 hs2 mk hk hz0 wt U S H hBB hpB) (tt_V ml_X7_167 im_X5_run se_X5_run in_X5 co_X5_run) ⟨rfl, rfl⟩ ⟨rfl, by decide, by decide, by decide⟩ ⟨Nat.le_of_ble_eq_true rfl, Nat.le_of_ble_eq_true rfl⟩ (by decide) rfl rfl rfl rfl rfl (Nat.le_of_ble_eq_true rfl) dX7_bestHandle_44 (fun Mu1 qu1 => ?_)
        refine r_aload_n C dX7_bestHandle_47 rfl 0 rfl ?_
        refine r_get C (Cn := RX7) (T := TX7) (N := 10) (id := 117) (by decide) inw_X7 rfl rfl 8 (by decide) rfl fl_X7_62 rfl dX7_bestHandle_48 ?_
        refine r_iload_n C dX7_bestHandle_51 rfl 2 rfl ?_
        refine r_pcallV_l (nA := 1) C (Nat.le_of_ble_eq_true rfl) [.int (nI w)] (c_X5_answer l D cs ad Mu1  w (by omega) _ _ _ rfl rfl rfl) (tt_V ml_X7_256 im_X5_answer se_X5_answer in_X5 co_X5_answer) ⟨rfl, rfl⟩ ⟨rfl, by decide, by decide, by decide⟩ ⟨Nat.le_of_ble_eq_true rfl, Nat.le_of_ble_eq_true rfl⟩ (by decide) rfl rfl rfl rfl rfl (Nat.le_of_ble_eq_true rfl) dX7_bestHandle_52 ?_
        exact E 0 _ _ _ _ (Nat.le_of_ble_eq_true rfl) dX7_bestHandle_55 (⟨an_z qu1 hw, rn_lk qu1⟩)
      ·
        refine r_iload_n C dX7_bestHandle_19 rfl 2 rfl ?_
        refine r_bipush C (nI 10) dX7_bestHandle_20 (by decide) ?_
        refine r_icmpN_ge C 35 dX7_bestHandle_22 (by decide) (by omega) (by omega) (fun h22 => ?_) (fun h22 => ?_)
        ·
          refine r_aload_n C dX7_bestHandle_35 rfl 0 rfl ?_
          refine r_get C (Cn := RX7) (T := TX7) (N := 10) (id := 117) (by decide) inw_X7 rfl rfl 8 (by decide) rfl fl_X7_62 rfl dX7_bestHandle_36 ?_
          refine r_aload_n C dX7_bestHandle_39 rfl 0 rfl ?_
          refine r_get C (Cn := RX7) (T := TX7) (N := 10) (id := 117) (by decide) inw_X7 rfl rfl 0 (by decide) rfl fl_X7_12 rfl dX7_bestHandle_40 ?_
          refine r_iload_n C dX7_bestHandle_43 rfl 1 rfl ?_
          refine r_ncallV_v (nA := 2) C hN (Nat.le_of_ble_eq_true rfl) [.ref (ad (gO 0)), .int (nI size)] (c_X5_runA l D cs ad M  z n d hg hn8 hm hd4 size bb hbb hs1 hs2 mk hk hz0 wt U S H hBB hpB) (tt_V ml_X7_167 im_X5_run se_X5_run in_X5 co_X5_run) ⟨rfl, rfl⟩ ⟨rfl, by decide, by decide, by decide⟩ ⟨Nat.le_of_ble_eq_true rfl, Nat.le_of_ble_eq_true rfl⟩ (by decide) rfl rfl rfl rfl rfl (Nat.le_of_ble_eq_true rfl) dX7_bestHandle_44 (fun Mu2 qu2 => ?_)
          refine r_aload_n C dX7_bestHandle_47 rfl 0 rfl ?_
          refine r_get C (Cn := RX7) (T := TX7) (N := 10) (id := 117) (by decide) inw_X7 rfl rfl 8 (by decide) rfl fl_X7_62 rfl dX7_bestHandle_48 ?_
          refine r_iload_n C dX7_bestHandle_51 rfl 2 rfl ?_
          refine r_pcallV_l (nA := 1) C (Nat.le_of_ble_eq_true rfl) [.int (nI w)] (c_X5_answer l D cs ad Mu2  w (by omega) _ _ _ rfl rfl rfl) (tt_V ml_X7_256 im_X5_answer se_X5_answer in_X5 co_X5_answer) ⟨rfl, rfl⟩ ⟨rfl, by decide, by decide, by decide⟩ ⟨Nat.le_of_ble_eq_true rfl, Nat.le_of_ble_eq_true rfl⟩ (by decide) rfl rfl rfl rfl rfl (Nat.le_of_ble_eq_true rfl) dX7_bestHandle_52 ?_
          exact E 0 _ _ _ _ (Nat.le_of_ble_eq_true rfl) dX7_bestHandle_55 (⟨an_z qu2 hw, rn_lk qu2⟩)
        ·
          exfalso; omega
set_option maxRecDepth 100000 in
set_option maxHeartbeats 4000000 in
theorem c_X7_bestHandleX1 (l : Launch) (D : va_G) (cs : Nat → ClassId) (ad : Nat → Nat) (hfl : l.stackTraces = false) (M : Mm) (x y : Int32) (hbad : wit x (nI 1) (nI 2) = false) : ∀ sz : Nat, vx_Met l yX7_bestHandle (.code yX7_bestHandle cX7_bestHandle 3 (some .long) :: TT) { frames := 7, cells := 1, slots := 6, locals := 112 } (va_Pc [.ref (ad 117), .int x, .int y] (fun U9 => U9.heap.size = sz ∧ wB D cs ad (fA ad sz) M U9 ∧ xX (fA ad sz) U9 U9.heap)) (va_Ql (fun _ (_ : Mm) => False) (wB D cs ad (fA ad sz)) (fA ad sz)) (vx_X (fun M2 => M2 = M) (fun E9 M2 t => E9 = xQA ∧ wB D cs ad (fA ad sz) M2 t) (fA ad sz)) 1 6 (fA ad sz) := by
  refine sx_L hfl (by decide) (Nat.le_of_ble_eq_true rfl) (fun κ C hN X => ?_)
  refine r_lv (lv2 := [(0, .ref (ad 117)), (1, .int x), (2, .int y)]) [0, 1, 2] rfl ?_
  refine r_iload_n C dX7_bestHandle_0 rfl 1 rfl ?_
  exact r_xcallS_v (nA := 1) C hN X [.int x] (c_X7_checkSizeX l D cs ad hfl M  x hbad) (tt_S ml_X7_164 st_X7_checkSize in_X7 co_X7_checkSize) ⟨rfl, rfl⟩ ⟨rfl, by decide, by decide, by decide⟩ ⟨Nat.le_of_ble_eq_true rfl, Nat.le_of_ble_eq_true rfl⟩ rfl rfl (Nat.le_of_ble_eq_true rfl) dX7_bestHandle_1 (fun _ h => h)
set_option maxRecDepth 100000 in
set_option maxHeartbeats 4000000 in
theorem c_X7_bestHandleX2 (l : Launch) (D : va_G) (cs : Nat → ClassId) (ad : Nat → Nat) (hfl : l.stackTraces = false) (M : Mm) (size : Nat) (hs1 : 1 ≤ size) (hs2 : size ≤ 2) (y : Int32) (hb1 : wit y (nI 0) (nI 1) = false) (hb2 : wit y (nI 10) (nI 13) = false) : ∀ sz : Nat, vx_Met l yX7_bestHandle (.code yX7_bestHandle cX7_bestHandle 3 (some .long) :: TT) { frames := 6, cells := 1, slots := 6, locals := 92 } (va_Pc [.ref (ad 117), .int (nI size), .int y] (fun U9 => U9.heap.size = sz ∧ wB D cs ad (fA ad sz) M U9 ∧ xX (fA ad sz) U9 U9.heap)) (va_Ql (fun _ (_ : Mm) => False) (wB D cs ad (fA ad sz)) (fA ad sz)) (vx_X (fun M2 => M2 = M) (fun E9 M2 t => E9 = xQA ∧ wB D cs ad (fA ad sz) M2 t) (fA ad sz)) 1 6 (fA ad sz) := by
  refine sx_L hfl (by decide) (Nat.le_of_ble_eq_true rfl) (fun κ C hN X => ?_)
  refine r_lv (lv2 := [(0, .ref (ad 117)), (1, .int (nI size)), (2, .int y)]) [0, 1, 2] rfl ?_
  refine r_iload_n C dX7_bestHandle_0 rfl 1 rfl ?_
  refine r_pcallS_v (nA := 1) C (Nat.le_of_ble_eq_true rfl) [.int (nI size)] (c_X7_checkSize l D cs ad M  size hs1 hs2) (tt_S ml_X7_164 st_X7_checkSize in_X7 co_X7_checkSize) ⟨rfl, rfl⟩ ⟨rfl, by decide, by decide, by decide⟩ ⟨Nat.le_of_ble_eq_true rfl, Nat.le_of_ble_eq_true rfl⟩ rfl rfl (Nat.le_of_ble_eq_true rfl) dX7_bestHandle_1 ?_
  refine r_iload_n C dX7_bestHandle_4 rfl 2 rfl ?_
  refine r_if_lt C 25 dX7_bestHandle_5 (by decide) (fun h5 => ?_) (fun h5 => ?_)
  ·
    exact r_throw C hN X (by decide) (show (254, "no such number of a handle") ∈ xTx from List.mem_of_getElem? (i := 18) rfl) xl_A xi_A xw_A xg_A dX7_bestHandle_25 dX7_bestHandle_28 dX7_bestHandle_29 dX7_bestHandle_31 dX7_bestHandle_34 (Nat.le_of_ble_eq_true rfl) (Nat.le_of_ble_eq_true rfl) rfl
  ·
    refine r_iload_n C dX7_bestHandle_8 rfl 2 rfl ?_
    refine r_bipush C (nI 13) dX7_bestHandle_9 (by decide) ?_
    refine r_icmp_gt C 25 dX7_bestHandle_11 (by decide) (fun h11 => ?_) (fun h11 => ?_)
    ·
      exact r_throw C hN X (by decide) (show (254, "no such number of a handle") ∈ xTx from List.mem_of_getElem? (i := 18) rfl) xl_A xi_A xw_A xg_A dX7_bestHandle_25 dX7_bestHandle_28 dX7_bestHandle_29 dX7_bestHandle_31 dX7_bestHandle_34 (Nat.le_of_ble_eq_true rfl) (Nat.le_of_ble_eq_true rfl) rfl
    ·
      refine r_iload_n C dX7_bestHandle_14 rfl 2 rfl ?_
      refine r_iconst C (nI 1) dX7_bestHandle_15 (by decide) ?_
      refine r_icmp_le C 35 dX7_bestHandle_16 (by decide) (fun h16 => ?_) (fun h16 => ?_)
      ·
        exact (wit_nn hb1 h5 h16).elim
      ·
        refine r_iload_n C dX7_bestHandle_19 rfl 2 rfl ?_
        refine r_bipush C (nI 10) dX7_bestHandle_20 (by decide) ?_
        refine r_icmp_ge C 35 dX7_bestHandle_22 (by decide) (fun h22 => ?_) (fun h22 => ?_)
        ·
          exact (wit_nn hb2 (Int32.not_lt.mpr h22) (Int32.not_lt.mp h11)).elim
        ·
          exact r_throw C hN X (by decide) (show (254, "no such number of a handle") ∈ xTx from List.mem_of_getElem? (i := 18) rfl) xl_A xi_A xw_A xg_A dX7_bestHandle_25 dX7_bestHandle_28 dX7_bestHandle_29 dX7_bestHandle_31 dX7_bestHandle_34 (Nat.le_of_ble_eq_true rfl) (Nat.le_of_ble_eq_true rfl) rfl
set_option maxRecDepth 100000 in
set_option maxHeartbeats 4000000 in
theorem c_X7_count (l : Launch) (D : va_G) (cs : Nat → ClassId) (ad : Nat → Nat) (M : Mm) (z : Nat → Int32) (n d : Nat) (hg : gv M 0 (gH 0) z n d) (hn8 : n ≤ 8) (hm : gm z n) (mk wt9 : Nat → Nat) (hk : gk z n mk) (hw9 : gw z n wt9) (hsy : gs z n) (hn1 : 1 ≤ n) (hpm : M.1 117 9 = z 54) (htk : ∀ k, k < 2 → M.1 119 k = nI 0 ∨ M.1 119 k = nI 1) (k : Nat) (hk9 : k ≤ 11) : ∀ sz : Nat, Met l yX7_count (.code yX7_count cX7_count 2 (some .int) :: TT) { frames := 42, cells := 0, slots := 0, locals := 1042 } (va_Pc [.ref (ad 117), .int (nI k)] (fun U9 => U9.heap.size = sz ∧ wB D cs ad (fA ad sz) M U9 ∧ xX (fA ad sz) U9 U9.heap)) (va_Qi (fun r M2 => r = ctz z (M.1 119) (M.1 120 3) n d k ∧ lkP M M2) (wB D cs ad (fA ad sz)) (fA ad sz)) 0 0 (fA ad sz) := by
  refine sn_I (by decide) (Nat.le_of_ble_eq_true rfl) (fun κ C hN E => ?_)
  refine r_lv (lv2 := [(0, .ref (ad 117)), (1, .int (nI k))]) [0, 1] rfl ?_
  refine r_iload_n C dX7_count_0 rfl 1 rfl ?_
  refine r_if_lt C 10 dX7_count_1 (by decide) (fun h1 => ?_) (fun h1 => ?_)
  · exact absurd h1 (nI_n0 (by omega))
  ·
    refine r_iload_n C dX7_count_4 rfl 1 rfl ?_
    refine r_bipush C (nI 11) dX7_count_5 (by decide) ?_
    refine r_icmpN_le C 21 dX7_count_7 (by decide) (by omega) (by omega) (fun h7 => ?_) (fun h7 => ?_)
    ·
      refine r_aload_n C dX7_count_21 rfl 0 rfl ?_
      refine r_callV_v (nA := 0) C (Nat.le_of_ble_eq_true rfl) [] (c_X7_searchGraph l D cs ad M  z n d hg hn8 hm hsy hn1) (tt_V ml_X7_234 im_X7_searchGraph se_X7_searchGraph in_X7 co_X7_searchGraph) ⟨rfl, rfl⟩ ⟨rfl, by decide, by decide, by decide⟩ ⟨Nat.le_of_ble_eq_true rfl, Nat.le_of_ble_eq_true rfl⟩ (by decide) rfl rfl rfl rfl rfl (Nat.le_of_ble_eq_true rfl) dX7_count_22 (fun Mu1 qu1 => ?_)
      refine r_aload_n C dX7_count_25 rfl 0 rfl ?_
      refine r_iload_n C dX7_count_26 rfl 1 rfl ?_
      refine r_npcallV_i (nA := 1) C hN (Nat.le_of_ble_eq_true rfl) [.int (nI k)] (c_X7_numberOf l D cs ad Mu1  z n d (sg_gv qu1 hg hn8) hn8 hm mk wt9 hk hw9 hsy qu1.2.2.2.1 qu1.2.2.2.2 qu1.2.2.1 (by rw [sg_id qu1 (by decide)]; exact hpm) (by rw [sg_id qu1 (by decide)]; exact htk) k (by omega)) (tt_V ml_X7_261 im_X7_numberOf se_X7_numberOf in_X7 co_X7_numberOf) ⟨rfl, rfl⟩ ⟨rfl, by decide, by decide, by decide⟩ ⟨Nat.le_of_ble_eq_true rfl, Nat.le_of_ble_eq_true rfl⟩ (by decide) rfl rfl rfl rfl rfl (Nat.le_of_ble_eq_true rfl) dX7_count_27 ?_
      exact E 0 _ _ _ _ (Nat.le_of_ble_eq_true rfl) dX7_count_30 (⟨by rw [sg_id qu1 (by decide), sg_id qu1 (by decide)], sg_lk qu1⟩)
    ·
      exfalso; omega
set_option maxRecDepth 100000 in
set_option maxHeartbeats 4000000 in
theorem c_X7_countX (l : Launch) (D : va_G) (cs : Nat → ClassId) (ad : Nat → Nat) (hfl : l.stackTraces = false) (M : Mm) (x : Int32) (hbad : wit x (nI 0) (nI 11) = false) : ∀ sz : Nat, vx_Met l yX7_count (.code yX7_count cX7_count 2 (some .int) :: TT) { frames := 6, cells := 1, slots := 6, locals := 92 } (va_Pc [.ref (ad 117), .int x] (fun U9 => U9.heap.size = sz ∧ wB D cs ad (fA ad sz) M U9 ∧ xX (fA ad sz) U9 U9.heap)) (va_Qi (fun _ (_ : Mm) => False) (wB D cs ad (fA ad sz)) (fA ad sz)) (vx_X (fun M2 => M2 = M) (fun E9 M2 t => E9 = xQA ∧ wB D cs ad (fA ad sz) M2 t) (fA ad sz)) 1 6 (fA ad sz) := by
  refine sx_I hfl (by decide) (Nat.le_of_ble_eq_true rfl) (fun κ C hN X => ?_)
  refine r_lv (lv2 := [(0, .ref (ad 117)), (1, .int x)]) [0, 1] rfl ?_
  refine r_iload_n C dX7_count_0 rfl 1 rfl ?_
  refine r_if_lt C 10 dX7_count_1 (by decide) (fun h1 => ?_) (fun h1 => ?_)
  ·
    exact r_throwW C hN X (by decide) (show (259, "no such number") ∈ xTx from List.mem_of_getElem? (i := 19) rfl) xl_A xi_A xw_A xg_A dX7_count_10 dX7_count_13 dX7_count_14 dX7_count_17 dX7_count_20 (Nat.le_of_ble_eq_true rfl) (Nat.le_of_ble_eq_true rfl) rfl
  ·
    refine r_iload_n C dX7_count_4 rfl 1 rfl ?_
    refine r_bipush C (nI 11) dX7_count_5 (by decide) ?_
    refine r_icmp_le C 21 dX7_count_7 (by decide) (fun h7 => ?_) (fun h7 => ?_)
    ·
      exact (wit_nn hbad h1 h7).elim
    ·
      exact r_throwW C hN X (by decide) (show (259, "no such number") ∈ xTx from List.mem_of_getElem? (i := 19) rfl) xl_A xi_A xw_A xg_A dX7_count_10 dX7_count_13 dX7_count_14 dX7_count_17 dX7_count_20 (Nat.le_of_ble_eq_true rfl) (Nat.le_of_ble_eq_true rfl) rfl
set_option maxRecDepth 100000 in
set_option maxHeartbeats 4000000 in
theorem c_X7_nearness (l : Launch) (D : va_G) (cs : Nat → ClassId) (ad : Nat → Nat) (M : Mm) (z : Nat → Int32) (n d : Nat) (hg : gv M 0 (gH 0) z n d) (hn8 : n ≤ 8) (hm : gm z n) (mk wt9 : Nat → Nat) (hk : gk z n mk) (hw9 : gw z n wt9) (hsy : gs z n) (hn1 : 1 ≤ n) (wt U S : Nat → Nat) (H : Nat) (hBr : rsz z n = nI 0 → bnH z n wt U S H) (hpo : rsz z n = nI 0 → hpos n wt U H) (hnn : rsz z n = nI 0 → ¬ bnA wt U S H n = 0 → vf_n64 (FP.dmul (FP.i2d (wz z n (hvz z n (nI 0)))) (FP.l2d (lN (bnB wt U S H n)))) ∧ vf_n64 (FP.ddiv (FP.dmul (FP.i2d (wz z n (hvz z n (nI 0)))) (FP.l2d (lN (bnB wt U S H n)))) (FP.l2d (lN (bnA wt U S H n))))) (hAb : bnA wt U S H n < 2 ^ 62) : ∀ sz : Nat, Met l yX7_nearness (.code yX7_nearness cX7_nearness 1 (some .double) :: TT) { frames := 42, cells := 0, slots := 0, locals := 1042 } (va_Pc [.ref (ad 117)] (fun U9 => U9.heap.size = sz ∧ wB D cs ad (fA ad sz) M U9 ∧ xX (fA ad sz) U9 U9.heap)) (va_Qd (fun r M2 => r = nrz z n wt U S H ∧ lkP M M2) (wB D cs ad (fA ad sz)) (fA ad sz)) 0 0 (fA ad sz) := by
  refine sn_D (by decide) (Nat.le_of_ble_eq_true rfl) (fun κ C hN E => ?_)
  refine r_lv (lv2 := [(0, .ref (ad 117))]) [0] rfl ?_
  refine r_aload_n C dX7_nearness_0 rfl 0 rfl ?_
  refine r_callV_v (nA := 0) C (Nat.le_of_ble_eq_true rfl) [] (c_X7_searchGraph l D cs ad M  z n d hg hn8 hm hsy hn1) (tt_V ml_X7_234 im_X7_searchGraph se_X7_searchGraph in_X7 co_X7_searchGraph) ⟨rfl, rfl⟩ ⟨rfl, by decide, by decide, by decide⟩ ⟨Nat.le_of_ble_eq_true rfl, Nat.le_of_ble_eq_true rfl⟩ (by decide) rfl rfl rfl rfl rfl (Nat.le_of_ble_eq_true rfl) dX7_nearness_1 (fun Mu1 qu1 => ?_)
  refine r_aload_n C dX7_nearness_4 rfl 0 rfl ?_
  refine r_ncallV_d (nA := 0) C hN (Nat.le_of_ble_eq_true rfl) [] (c_X7_share l D cs ad Mu1  z n d (sg_gv qu1 hg hn8) hn8 hm mk wt9 hk hw9 hsy qu1.2.2.2.1 qu1.2.2.2.2 wt U S H hBr hpo hnn hAb) (tt_V ml_X7_264 im_X7_share se_X7_share in_X7 co_X7_share) ⟨rfl, rfl⟩ ⟨rfl, by decide, by decide, by decide⟩ ⟨Nat.le_of_ble_eq_true rfl, Nat.le_of_ble_eq_true rfl⟩ (by decide) rfl rfl rfl rfl rfl (Nat.le_of_ble_eq_true rfl) dX7_nearness_5 (fun ru2 Mu2 qu2 => ?_)
  obtain ⟨rfl, qsu2⟩ := qu2
  exact E 0 _ _ _ _ (Nat.le_of_ble_eq_true rfl) dX7_nearness_8 (⟨rfl, (sg_lk qu1).tr (oB_lk qsu2 (by decide))⟩)
