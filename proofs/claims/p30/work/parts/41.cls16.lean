/-! ===== the class: its calls (written by wip/whole/gen/cls16.py) ===== -/
theorem sv_gv {M M1 : Mm} {z y : Nat → Int32} {n d n2 d2 lt s g gi : Nat} {pm : Int32} (hs : svP M M1 z n d lt s pm) (hlt : lt < 6) (hg : gv M g gi y n2 d2) (hn : n2 ≤ 8) (hg3 : g < 3) (hi : gi < 39 ∨ 124 ≤ gi) : gv M1 g gi y n2 d2 := gv_k hg hn (fun i q => hs.2.2.2.2.2.1 i (by have := nx6_lt hlt; omega) (by omega) (by omega))
/-- after a call that saves and changes the graph -/
def chP (M M2 : Mm) (z : Nat → Int32) (n d lt s : Nat) (z2 : Nat → Int32) (n2 d2 : Nat) : Prop := ∃ M1, svP M M1 z n d lt s (M.1 117 9) ∧ oG 0 M1 M2 ∧ gv M2 0 (gH 0) z2 n2 d2
theorem fn_gv {z y : Nat → Int32} {n n2 d2 : Nat} {M M1 : Mm} (h : fnP z n M M1) (hg : gv M 0 (gH 0) y n2 d2) (hn : n2 ≤ 8) : gv M1 0 (gH 0) y n2 d2 := gv_k hg hn (fun i q => h.1 i (by simp only [gH] at q; omega) (by simp only [gH] at q; omega))
theorem sg_gv {z y : Nat → Int32} {n n2 d2 : Nat} {M M1 : Mm} (h : sgP z n M M1) (hg : gv M 0 (gH 0) y n2 d2) (hn : n2 ≤ 8) : gv M1 0 (gH 0) y n2 d2 := gv_k hg hn (fun i q => h.1 i (by simp only [gH] at q; omega))
theorem rn_gv {z y : Nat → Int32} {n d b size n2 d2 : Nat} {wt U : Nat → Nat} {S : Nat → Nat → Nat} {H : Nat → Nat} {M M1 : Mm} (h : rnA z n d b size wt U S H M M1) (hg : gv M 0 (gH 0) y n2 d2) (hn : n2 ≤ 8) : gv M1 0 (gH 0) y n2 d2 := gv_k hg hn (fun i q => (h.1 i (by simp only [gH] at q; omega)).1)
theorem i2c_n {c : Nat} (h : c ≤ 126) : ((nI c).toUInt32 % 65536).toInt32 = nI c := by
  have h2 : ∀ c : Fin 127, ((nI c.val).toUInt32 % 65536).toInt32 = nI c.val := by decide +kernel
  exact h2 ⟨c, by omega⟩
theorem nar_c {c : Nat} (h : c ≤ 126) : vp_nar .char (nI c) = nI c := by
  have h2 : ∀ c : Fin 127, vp_nar .char (nI c.val) = nI c.val := by decide +kernel
  exact h2 ⟨c, by omega⟩
theorem nar_1 : vp_nar .boolean (nI 1) = nI 1 := by decide +kernel
set_option maxRecDepth 100000 in
set_option maxHeartbeats 4000000 in
theorem c_X7_begin (l : Launch) (D : va_G) (cs : Nat → ClassId) (ad : Nat → Nat) (M : Mm) (z : Nat → Int32) (n d : Nat) (hg : gv M 0 (gH 0) z n d) (hn8 : n ≤ 8) (lt : Nat) (hlt : M.1 120 2 = nI lt) (hlt6 : lt < 6) (s9 : Nat) (hs : M.1 120 3 = nI s9) (hs6 : s9 ≤ 6) (a b : Nat) (ha1 : 1 ≤ a) (ha : a ≤ 8) (hb1 : 1 ≤ b) (hb : b ≤ 4) : ∀ sz : Nat, Met l yX7_begin (.code yX7_begin cX7_begin 4 (some .int) :: TT) { frames := 4, cells := 0, slots := 0, locals := 124 } (va_Pc [.ref (ad 117), .int (nI a), .int (nI b)] (fun U9 => U9.heap.size = sz ∧ wB D cs ad (fA ad sz) M U9 ∧ xX (fA ad sz) U9 U9.heap)) (va_Qi (fun r M2 => r = nI n ∧ chP M M2 z n d lt s9 (emR z a b) a b) (wB D cs ad (fA ad sz)) (fA ad sz)) 0 0 (fA ad sz) := by
  refine sn_I (by decide) (Nat.le_of_ble_eq_true rfl) (fun κ C hN E => ?_)
  refine r_lv (lv2 := [(0, .ref (ad 117)), (1, .int (nI a)), (2, .int (nI b))]) [0, 1, 2] rfl ?_
  refine r_iload_n C dX7_begin_0 rfl 1 rfl ?_
  refine r_iconst C (nI 1) dX7_begin_1 (by decide) ?_
  refine r_icmpN_lt C 21 dX7_begin_2 (by decide) (by omega) (by omega) (fun h2 => ?_) (fun h2 => ?_)
  ·
    exfalso; omega
  ·
    refine r_iload_n C dX7_begin_5 rfl 1 rfl ?_
    refine r_bipush C (nI 8) dX7_begin_6 (by decide) ?_
    refine r_icmpN_gt C 21 dX7_begin_8 (by decide) (by omega) (by omega) (fun h8 => ?_) (fun h8 => ?_)
    ·
      exfalso; omega
    ·
      refine r_iload_n C dX7_begin_11 rfl 2 rfl ?_
      refine r_iconst C (nI 1) dX7_begin_12 (by decide) ?_
      refine r_icmpN_lt C 21 dX7_begin_13 (by decide) (by omega) (by omega) (fun h13 => ?_) (fun h13 => ?_)
      ·
        exfalso; omega
      ·
        refine r_iload_n C dX7_begin_16 rfl 2 rfl ?_
        refine r_iconst C (nI 4) dX7_begin_17 (by decide) ?_
        refine r_icmpN_le C 31 dX7_begin_18 (by decide) (by omega) (by omega) (fun h18 => ?_) (fun h18 => ?_)
        ·
          refine r_aload_n C dX7_begin_31 rfl 0 rfl ?_
          refine r_get C (Cn := RX7) (T := TX7) (N := 10) (id := 117) (by decide) inw_X7 rfl rfl 0 (by decide) rfl fl_X7_12 rfl dX7_begin_32 ?_
          refine r_get C (Cn := RX4) (T := TX4) (N := 6) (id := (gO 0)) (by simp only [gO, gN, gW, gL, gR, gH] <;> omega) inw_X4 (wF_O cs ad (by decide) _ _) rfl 0 (by decide) rfl fl_X7_77 rfl dX7_begin_35 ?_
          refine r_topi (w := nI n) hg.1 ?_
          refine r_istore_n C [(3, .int (nI n)), (0, .ref (ad 117)), (1, .int (nI a)), (2, .int (nI b))] dX7_begin_38 rfl (by decide) rfl ?_
          refine r_aload_n C dX7_begin_39 rfl 1 rfl ?_
          refine r_callV_v (nA := 0) C (Nat.le_of_ble_eq_true rfl) [] (c_X7_saveState l D cs ad M  z n d hg hn8 lt hlt hlt6 s9 hs hs6) (tt_V ml_X7_80 im_X7_saveState se_X7_saveState in_X7 co_X7_saveState) ⟨rfl, rfl⟩ ⟨rfl, by decide, by decide, by decide⟩ ⟨Nat.le_of_ble_eq_true rfl, Nat.le_of_ble_eq_true rfl⟩ (by decide) rfl rfl rfl rfl rfl (Nat.le_of_ble_eq_true rfl) dX7_begin_40 (fun Mu1 qu1 => ?_)
          refine r_aload_n C dX7_begin_43 rfl 1 rfl ?_
          refine r_get C (Cn := RX7) (T := TX7) (N := 10) (id := 117) (by decide) inw_X7 rfl rfl 0 (by decide) rfl fl_X7_12 rfl dX7_begin_44 ?_
          refine r_iload_n C dX7_begin_47 rfl 2 rfl ?_
          refine r_iload_n C dX7_begin_48 rfl 3 rfl ?_
          refine r_callV_v (nA := 2) C (Nat.le_of_ble_eq_true rfl) [.int (nI a), .int (nI b)] (c_X4_clear l D cs ad Mu1  a b ha) (tt_V ml_X7_83 im_X4_clear se_X4_clear in_X4 co_X4_clear) ⟨rfl, rfl⟩ ⟨rfl, by decide, by decide, by decide⟩ ⟨Nat.le_of_ble_eq_true rfl, Nat.le_of_ble_eq_true rfl⟩ (by simp only [gO, gN, gW, gL, gR, gH] <;> omega) (wF_O cs ad (by decide) _ _) rfl rfl rfl rfl (Nat.le_of_ble_eq_true rfl) dX7_begin_49 (fun Mu2 qu2 => ?_)
          refine r_iload_n C dX7_begin_52 rfl 0 rfl ?_
          exact E 0 _ _ _ _ (Nat.le_of_ble_eq_true rfl) dX7_begin_53 (⟨rfl, _, qu1, qu2.1, qu2.2 z⟩)
        ·
          exfalso; omega
set_option maxRecDepth 100000 in
set_option maxHeartbeats 4000000 in
theorem c_X7_join (l : Launch) (D : va_G) (cs : Nat → ClassId) (ad : Nat → Nat) (M : Mm) (z : Nat → Int32) (n d : Nat) (hg : gv M 0 (gH 0) z n d) (hn8 : n ≤ 8) (lt : Nat) (hlt : M.1 120 2 = nI lt) (hlt6 : lt < 6) (s9 : Nat) (hs : M.1 120 3 = nI s9) (hs6 : s9 ≤ 6) (a b : Nat) (i : Bool) (ha : a < n) (hb : b < n) (hab : a ≠ b) (hm2 : gm (joR z a b i) n) : ∀ sz : Nat, Met l yX7_join (.code yX7_join cX7_join 4 (some .int) :: TT) { frames := 4, cells := 0, slots := 0, locals := 124 } (va_Pc [.ref (ad 117), .int (nI a), .int (nI b), .int (bI i)] (fun U9 => U9.heap.size = sz ∧ wB D cs ad (fA ad sz) M U9 ∧ xX (fA ad sz) U9 U9.heap)) (va_Qi (fun r M2 => r = edz (joR z a b i) n ∧ chP M M2 z n d lt s9 (joR z a b i) n d) (wB D cs ad (fA ad sz)) (fA ad sz)) 0 0 (fA ad sz) := by
  refine sn_I (by decide) (Nat.le_of_ble_eq_true rfl) (fun κ C hN E => ?_)
  refine r_lv (lv2 := [(0, .ref (ad 117)), (1, .int (nI a)), (2, .int (nI b)), (3, .int (bI i))]) [0, 1, 2, 3] rfl ?_
  refine r_aload_n C dX7_join_0 rfl 0 rfl ?_
  refine r_iload_n C dX7_join_1 rfl 1 rfl ?_
  refine r_pcallV_v (nA := 1) C (Nat.le_of_ble_eq_true rfl) [.int (nI a)] (c_X7_checkVertex l D cs ad M  n hg.1 hn8 a (by omega)) (tt_V ml_X7_87 im_X7_checkVertex se_X7_checkVertex in_X7 co_X7_checkVertex) ⟨rfl, rfl⟩ ⟨rfl, by decide, by decide, by decide⟩ ⟨Nat.le_of_ble_eq_true rfl, Nat.le_of_ble_eq_true rfl⟩ (by decide) rfl rfl rfl rfl rfl (Nat.le_of_ble_eq_true rfl) dX7_join_2 ?_
  refine r_aload_n C dX7_join_5 rfl 0 rfl ?_
  refine r_iload_n C dX7_join_6 rfl 2 rfl ?_
  refine r_pcallV_v (nA := 1) C (Nat.le_of_ble_eq_true rfl) [.int (nI b)] (c_X7_checkVertex l D cs ad M  n hg.1 hn8 b (by omega)) (tt_V ml_X7_87 im_X7_checkVertex se_X7_checkVertex in_X7 co_X7_checkVertex) ⟨rfl, rfl⟩ ⟨rfl, by decide, by decide, by decide⟩ ⟨Nat.le_of_ble_eq_true rfl, Nat.le_of_ble_eq_true rfl⟩ (by decide) rfl rfl rfl rfl rfl (Nat.le_of_ble_eq_true rfl) dX7_join_7 ?_
  refine r_iload_n C dX7_join_10 rfl 1 rfl ?_
  refine r_iload_n C dX7_join_11 rfl 2 rfl ?_
  refine r_icmpN_ne C 25 dX7_join_12 (by decide) (by omega) (by omega) (fun h12 => ?_) (fun h12 => ?_)
  ·
    refine r_aload_n C dX7_join_25 rfl 0 rfl ?_
    refine r_callV_v (nA := 0) C (Nat.le_of_ble_eq_true rfl) [] (c_X7_saveState l D cs ad M  z n d hg hn8 lt hlt hlt6 s9 hs hs6) (tt_V ml_X7_80 im_X7_saveState se_X7_saveState in_X7 co_X7_saveState) ⟨rfl, rfl⟩ ⟨rfl, by decide, by decide, by decide⟩ ⟨Nat.le_of_ble_eq_true rfl, Nat.le_of_ble_eq_true rfl⟩ (by decide) rfl rfl rfl rfl rfl (Nat.le_of_ble_eq_true rfl) dX7_join_26 (fun Mu1 qu1 => ?_)
    refine r_aload_n C dX7_join_29 rfl 0 rfl ?_
    refine r_get C (Cn := RX7) (T := TX7) (N := 10) (id := 117) (by decide) inw_X7 rfl rfl 0 (by decide) rfl fl_X7_12 rfl dX7_join_30 ?_
    refine r_iload_n C dX7_join_33 rfl 1 rfl ?_
    refine r_iload_n C dX7_join_34 rfl 2 rfl ?_
    refine r_iload_n C dX7_join_35 rfl 3 rfl ?_
    refine r_callV_v (nA := 3) C (Nat.le_of_ble_eq_true rfl) [.int (nI a), .int (nI b), .int (bI i)] (c_X4_connect l D cs ad Mu1  z n d (sv_gv qu1 hlt6 hg hn8 (by decide) (by decide)) hn8 a b i (by omega) (by omega) hab) (tt_V ml_X7_93 im_X4_connect se_X4_connect in_X4 co_X4_connect) ⟨rfl, rfl⟩ ⟨rfl, by decide, by decide, by decide⟩ ⟨Nat.le_of_ble_eq_true rfl, Nat.le_of_ble_eq_true rfl⟩ (by simp only [gO, gN, gW, gL, gR, gH] <;> omega) (wF_O cs ad (by decide) _ _) rfl rfl rfl rfl (Nat.le_of_ble_eq_true rfl) dX7_join_36 (fun Mu2 qu2 => ?_)
    refine r_aload_n C dX7_join_39 rfl 0 rfl ?_
    refine r_get C (Cn := RX7) (T := TX7) (N := 10) (id := 117) (by decide) inw_X7 rfl rfl 0 (by decide) rfl fl_X7_12 rfl dX7_join_40 ?_
    refine r_pcallV_i (nA := 0) C (Nat.le_of_ble_eq_true rfl) [] (c_X4_edges l D cs ad Mu2 0  (by decide) (gH 0) (joR z a b i) n d qu2.2 hn8 hm2) (tt_V ml_X7_97 im_X4_edges se_X4_edges in_X4 co_X4_edges) ⟨rfl, rfl⟩ ⟨rfl, by decide, by decide, by decide⟩ ⟨Nat.le_of_ble_eq_true rfl, Nat.le_of_ble_eq_true rfl⟩ (by simp only [gO, gN, gW, gL, gR, gH] <;> omega) (wF_O cs ad (by decide) _ _) rfl rfl rfl rfl (Nat.le_of_ble_eq_true rfl) dX7_join_43 ?_
    exact E 0 _ _ _ _ (Nat.le_of_ble_eq_true rfl) dX7_join_46 (⟨rfl, _, qu1, qu2.1, qu2.2⟩)
  ·
    exfalso; omega
set_option maxRecDepth 100000 in
set_option maxHeartbeats 4000000 in
theorem c_X7_weigh (l : Launch) (D : va_G) (cs : Nat → ClassId) (ad : Nat → Nat) (M : Mm) (z : Nat → Int32) (n d : Nat) (hg : gv M 0 (gH 0) z n d) (hn8 : n ≤ 8) (lt : Nat) (hlt : M.1 120 2 = nI lt) (hlt6 : lt < 6) (s9 : Nat) (hs : M.1 120 3 = nI s9) (hs6 : s9 ≤ 6) (v w : Nat) (hv : v < n) (hw : w ≤ 9) : ∀ sz : Nat, Met l yX7_weigh (.code yX7_weigh cX7_weigh 4 (some .int) :: TT) { frames := 4, cells := 0, slots := 0, locals := 124 } (va_Pc [.ref (ad 117), .int (nI v), .int (nI w)] (fun U9 => U9.heap.size = sz ∧ wB D cs ad (fA ad sz) M U9 ∧ xX (fA ad sz) U9 U9.heap)) (va_Qi (fun r M2 => r = z (2 + v) ∧ ∃ M1, svP M M1 z n d lt s9 (M.1 117 9) ∧ M2 = mI M1 (gW 0) v (nI w)) (wB D cs ad (fA ad sz)) (fA ad sz)) 0 0 (fA ad sz) := by
  refine sn_I (by decide) (Nat.le_of_ble_eq_true rfl) (fun κ C hN E => ?_)
  refine r_lv (lv2 := [(0, .ref (ad 117)), (1, .int (nI v)), (2, .int (nI w))]) [0, 1, 2] rfl ?_
  refine r_aload_n C dX7_weigh_0 rfl 0 rfl ?_
  refine r_iload_n C dX7_weigh_1 rfl 1 rfl ?_
  refine r_pcallV_v (nA := 1) C (Nat.le_of_ble_eq_true rfl) [.int (nI v)] (c_X7_checkVertex l D cs ad M  n hg.1 hn8 v (by omega)) (tt_V ml_X7_87 im_X7_checkVertex se_X7_checkVertex in_X7 co_X7_checkVertex) ⟨rfl, rfl⟩ ⟨rfl, by decide, by decide, by decide⟩ ⟨Nat.le_of_ble_eq_true rfl, Nat.le_of_ble_eq_true rfl⟩ (by decide) rfl rfl rfl rfl rfl (Nat.le_of_ble_eq_true rfl) dX7_weigh_2 ?_
  refine r_iload_n C dX7_weigh_5 rfl 2 rfl ?_
  refine r_if_lt C 15 dX7_weigh_6 (by decide) (fun h6 => ?_) (fun h6 => ?_)
  · exact absurd h6 (nI_n0 (by omega))
  ·
    refine r_iload_n C dX7_weigh_9 rfl 2 rfl ?_
    refine r_bipush C (nI 9) dX7_weigh_10 (by decide) ?_
    refine r_icmpN_le C 25 dX7_weigh_12 (by decide) (by omega) (by omega) (fun h12 => ?_) (fun h12 => ?_)
    ·
      refine r_aload_n C dX7_weigh_25 rfl 0 rfl ?_
      refine r_get C (Cn := RX7) (T := TX7) (N := 10) (id := 117) (by decide) inw_X7 rfl rfl 0 (by decide) rfl fl_X7_12 rfl dX7_weigh_26 ?_
      refine r_get C (Cn := RX4) (T := TX4) (N := 6) (id := (gO 0)) (by simp only [gO, gN, gW, gL, gR, gH] <;> omega) inw_X4 (wF_O cs ad (by decide) _ _) rfl 3 (by decide) rfl fl_X7_103 rfl dX7_weigh_29 ?_
      refine r_iload_n C dX7_weigh_32 rfl 1 rfl ?_
      refine r_iald C (id := (gW 0)) (n := 8) (a := v) (by simp only [gO, gN, gW, gL, gR, gH] <;> omega) (wF_W cs ad (by decide) _ _) (by omega) (by decide) dX7_weigh_33 ?_
      refine r_topi (w := (z (2 + v))) (hg.2.2.2.1 v (by omega)) ?_
      refine r_istore_n C [(3, .int (z (2 + v))), (0, .ref (ad 117)), (1, .int (nI v)), (2, .int (nI w))] dX7_weigh_34 rfl (by decide) rfl ?_
      refine r_aload_n C dX7_weigh_35 rfl 1 rfl ?_
      refine r_callV_v (nA := 0) C (Nat.le_of_ble_eq_true rfl) [] (c_X7_saveState l D cs ad M  z n d hg hn8 lt hlt hlt6 s9 hs hs6) (tt_V ml_X7_80 im_X7_saveState se_X7_saveState in_X7 co_X7_saveState) ⟨rfl, rfl⟩ ⟨rfl, by decide, by decide, by decide⟩ ⟨Nat.le_of_ble_eq_true rfl, Nat.le_of_ble_eq_true rfl⟩ (by decide) rfl rfl rfl rfl rfl (Nat.le_of_ble_eq_true rfl) dX7_weigh_36 (fun Mu1 qu1 => ?_)
      refine r_aload_n C dX7_weigh_39 rfl 1 rfl ?_
      refine r_get C (Cn := RX7) (T := TX7) (N := 10) (id := 117) (by decide) inw_X7 rfl rfl 0 (by decide) rfl fl_X7_12 rfl dX7_weigh_40 ?_
      refine r_get C (Cn := RX4) (T := TX4) (N := 6) (id := (gO 0)) (by simp only [gO, gN, gW, gL, gR, gH] <;> omega) inw_X4 (wF_O cs ad (by decide) _ _) rfl 3 (by decide) rfl fl_X7_103 rfl dX7_weigh_43 ?_
      refine r_iload_n C dX7_weigh_46 rfl 2 rfl ?_
      refine r_iload_n C dX7_weigh_47 rfl 3 rfl ?_
      refine r_iast C (id := (gW 0)) (n := 8) (a := v) (by simp only [gO, gN, gW, gL, gR, gH] <;> omega) (fun _ => (wF_W cs ad (by decide) _ _)) (by omega) (by decide) dX7_weigh_48 ?_
      refine r_iload_n C dX7_weigh_49 rfl 0 rfl ?_
      exact E 0 _ _ _ _ (Nat.le_of_ble_eq_true rfl) dX7_weigh_50 (⟨rfl, _, qu1, rfl⟩)
    ·
      exfalso; omega
set_option maxRecDepth 100000 in
set_option maxHeartbeats 4000000 in
theorem c_X7_complement (l : Launch) (D : va_G) (cs : Nat → ClassId) (ad : Nat → Nat) (M : Mm) (z : Nat → Int32) (n d : Nat) (hg : gv M 0 (gH 0) z n d) (hn8 : n ≤ 8) (lt : Nat) (hlt : M.1 120 2 = nI lt) (hlt6 : lt < 6) (s9 : Nat) (hs : M.1 120 3 = nI s9) (hs6 : s9 ≤ 6) (hm2 : gm (cpl z n n) n) : ∀ sz : Nat, Met l yX7_complement (.code yX7_complement cX7_complement 1 (some .int) :: TT) { frames := 4, cells := 0, slots := 0, locals := 124 } (va_Pc [.ref (ad 117)] (fun U9 => U9.heap.size = sz ∧ wB D cs ad (fA ad sz) M U9 ∧ xX (fA ad sz) U9 U9.heap)) (va_Qi (fun r M2 => r = edz (cpl z n n) n ∧ chP M M2 z n d lt s9 (cpl z n n) n d) (wB D cs ad (fA ad sz)) (fA ad sz)) 0 0 (fA ad sz) := by
  refine sn_I (by decide) (Nat.le_of_ble_eq_true rfl) (fun κ C hN E => ?_)
  refine r_lv (lv2 := [(0, .ref (ad 117))]) [0] rfl ?_
  refine r_aload_n C dX7_complement_0 rfl 0 rfl ?_
  refine r_callV_v (nA := 0) C (Nat.le_of_ble_eq_true rfl) [] (c_X7_saveState l D cs ad M  z n d hg hn8 lt hlt hlt6 s9 hs hs6) (tt_V ml_X7_80 im_X7_saveState se_X7_saveState in_X7 co_X7_saveState) ⟨rfl, rfl⟩ ⟨rfl, by decide, by decide, by decide⟩ ⟨Nat.le_of_ble_eq_true rfl, Nat.le_of_ble_eq_true rfl⟩ (by decide) rfl rfl rfl rfl rfl (Nat.le_of_ble_eq_true rfl) dX7_complement_1 (fun Mu1 qu1 => ?_)
  refine r_aload_n C dX7_complement_4 rfl 0 rfl ?_
  refine r_get C (Cn := RX7) (T := TX7) (N := 10) (id := 117) (by decide) inw_X7 rfl rfl 0 (by decide) rfl fl_X7_12 rfl dX7_complement_5 ?_
  refine r_callV_v (nA := 0) C (Nat.le_of_ble_eq_true rfl) [] (c_X4_flipEdges l D cs ad Mu1  z n d (sv_gv qu1 hlt6 hg hn8 (by decide) (by decide)) hn8) (tt_V ml_X7_107 im_X4_flipEdges se_X4_flipEdges in_X4 co_X4_flipEdges) ⟨rfl, rfl⟩ ⟨rfl, by decide, by decide, by decide⟩ ⟨Nat.le_of_ble_eq_true rfl, Nat.le_of_ble_eq_true rfl⟩ (by simp only [gO, gN, gW, gL, gR, gH] <;> omega) (wF_O cs ad (by decide) _ _) rfl rfl rfl rfl (Nat.le_of_ble_eq_true rfl) dX7_complement_8 (fun Mu2 qu2 => ?_)
  refine r_aload_n C dX7_complement_11 rfl 0 rfl ?_
  refine r_get C (Cn := RX7) (T := TX7) (N := 10) (id := 117) (by decide) inw_X7 rfl rfl 0 (by decide) rfl fl_X7_12 rfl dX7_complement_12 ?_
  refine r_pcallV_i (nA := 0) C (Nat.le_of_ble_eq_true rfl) [] (c_X4_edges l D cs ad Mu2 0  (by decide) (gH 0) (cpl z n n) n d qu2.2 hn8 hm2) (tt_V ml_X7_97 im_X4_edges se_X4_edges in_X4 co_X4_edges) ⟨rfl, rfl⟩ ⟨rfl, by decide, by decide, by decide⟩ ⟨Nat.le_of_ble_eq_true rfl, Nat.le_of_ble_eq_true rfl⟩ (by simp only [gO, gN, gW, gL, gR, gH] <;> omega) (wF_O cs ad (by decide) _ _) rfl rfl rfl rfl (Nat.le_of_ble_eq_true rfl) dX7_complement_15 ?_
  exact E 0 _ _ _ _ (Nat.le_of_ble_eq_true rfl) dX7_complement_18 (⟨rfl, _, qu1, qu2.1, qu2.2⟩)
set_option maxRecDepth 100000 in
set_option maxHeartbeats 4000000 in
theorem c_X7_remove (l : Launch) (D : va_G) (cs : Nat → ClassId) (ad : Nat → Nat) (M : Mm) (z : Nat → Int32) (n d : Nat) (hg : gv M 0 (gH 0) z n d) (hn8 : n ≤ 8) (lt : Nat) (hlt : M.1 120 2 = nI lt) (hlt6 : lt < 6) (s9 : Nat) (hs : M.1 120 3 = nI s9) (hs6 : s9 ≤ 6) (hm : gm z n) (v : Nat) (hv : v < n) (hn2 : 2 ≤ n) : ∀ sz : Nat, Met l yX7_remove (.code yX7_remove cX7_remove 2 (some .int) :: TT) { frames := 4, cells := 0, slots := 0, locals := 124 } (va_Pc [.ref (ad 117), .int (nI v)] (fun U9 => U9.heap.size = sz ∧ wB D cs ad (fA ad sz) M U9 ∧ xX (fA ad sz) U9 U9.heap)) (va_Qi (fun r M2 => r = nI (n - 1) ∧ chP M M2 z n d lt s9 (rmR z n v) (n - 1) d) (wB D cs ad (fA ad sz)) (fA ad sz)) 0 0 (fA ad sz) := by
  refine sn_I (by decide) (Nat.le_of_ble_eq_true rfl) (fun κ C hN E => ?_)
  refine r_lv (lv2 := [(0, .ref (ad 117)), (1, .int (nI v))]) [0, 1] rfl ?_
  refine r_aload_n C dX7_remove_0 rfl 0 rfl ?_
  refine r_iload_n C dX7_remove_1 rfl 1 rfl ?_
  refine r_pcallV_v (nA := 1) C (Nat.le_of_ble_eq_true rfl) [.int (nI v)] (c_X7_checkVertex l D cs ad M  n hg.1 hn8 v (by omega)) (tt_V ml_X7_87 im_X7_checkVertex se_X7_checkVertex in_X7 co_X7_checkVertex) ⟨rfl, rfl⟩ ⟨rfl, by decide, by decide, by decide⟩ ⟨Nat.le_of_ble_eq_true rfl, Nat.le_of_ble_eq_true rfl⟩ (by decide) rfl rfl rfl rfl rfl (Nat.le_of_ble_eq_true rfl) dX7_remove_2 ?_
  refine r_aload_n C dX7_remove_5 rfl 0 rfl ?_
  refine r_get C (Cn := RX7) (T := TX7) (N := 10) (id := 117) (by decide) inw_X7 rfl rfl 0 (by decide) rfl fl_X7_12 rfl dX7_remove_6 ?_
  refine r_get C (Cn := RX4) (T := TX4) (N := 6) (id := (gO 0)) (by simp only [gO, gN, gW, gL, gR, gH] <;> omega) inw_X4 (wF_O cs ad (by decide) _ _) rfl 0 (by decide) rfl fl_X7_77 rfl dX7_remove_9 ?_
  refine r_topi (w := nI n) hg.1 ?_
  refine r_iconst C (nI 1) dX7_remove_12 (by decide) ?_
  refine r_icmpN_ne C 26 dX7_remove_13 (by decide) (by omega) (by omega) (fun h13 => ?_) (fun h13 => ?_)
  ·
    refine r_aload_n C dX7_remove_26 rfl 0 rfl ?_
    refine r_callV_v (nA := 0) C (Nat.le_of_ble_eq_true rfl) [] (c_X7_saveState l D cs ad M  z n d hg hn8 lt hlt hlt6 s9 hs hs6) (tt_V ml_X7_80 im_X7_saveState se_X7_saveState in_X7 co_X7_saveState) ⟨rfl, rfl⟩ ⟨rfl, by decide, by decide, by decide⟩ ⟨Nat.le_of_ble_eq_true rfl, Nat.le_of_ble_eq_true rfl⟩ (by decide) rfl rfl rfl rfl rfl (Nat.le_of_ble_eq_true rfl) dX7_remove_27 (fun Mu1 qu1 => ?_)
    refine r_aload_n C dX7_remove_30 rfl 0 rfl ?_
    refine r_get C (Cn := RX7) (T := TX7) (N := 10) (id := 117) (by decide) inw_X7 rfl rfl 0 (by decide) rfl fl_X7_12 rfl dX7_remove_31 ?_
    refine r_iload_n C dX7_remove_34 rfl 1 rfl ?_
    refine r_callV_v (nA := 1) C (Nat.le_of_ble_eq_true rfl) [.int (nI v)] (c_X4_drop l D cs ad Mu1  z n d (sv_gv qu1 hlt6 hg hn8 (by decide) (by decide)) hn8 hm v hv hn2) (tt_V ml_X7_115 im_X4_drop se_X4_drop in_X4 co_X4_drop) ⟨rfl, rfl⟩ ⟨rfl, by decide, by decide, by decide⟩ ⟨Nat.le_of_ble_eq_true rfl, Nat.le_of_ble_eq_true rfl⟩ (by simp only [gO, gN, gW, gL, gR, gH] <;> omega) (wF_O cs ad (by decide) _ _) rfl rfl rfl rfl (Nat.le_of_ble_eq_true rfl) dX7_remove_35 (fun Mu2 qu2 => ?_)
    refine r_aload_n C dX7_remove_38 rfl 0 rfl ?_
    refine r_get C (Cn := RX7) (T := TX7) (N := 10) (id := 117) (by decide) inw_X7 rfl rfl 0 (by decide) rfl fl_X7_12 rfl dX7_remove_39 ?_
    refine r_get C (Cn := RX4) (T := TX4) (N := 6) (id := (gO 0)) (by simp only [gO, gN, gW, gL, gR, gH] <;> omega) inw_X4 (wF_O cs ad (by decide) _ _) rfl 0 (by decide) rfl fl_X7_77 rfl dX7_remove_42 ?_
    refine r_topi (w := nI (n - 1)) qu2.2.1 ?_
    exact E 0 _ _ _ _ (Nat.le_of_ble_eq_true rfl) dX7_remove_45 (⟨rfl, _, qu1, qu2.1, qu2.2⟩)
  ·
    exfalso; omega
set_option maxRecDepth 100000 in
set_option maxHeartbeats 4000000 in
theorem c_X7_label (l : Launch) (D : va_G) (cs : Nat → ClassId) (ad : Nat → Nat) (M : Mm) (z : Nat → Int32) (n d : Nat) (hg : gv M 0 (gH 0) z n d) (hn8 : n ≤ 8) (lt : Nat) (hlt : M.1 120 2 = nI lt) (hlt6 : lt < 6) (s9 : Nat) (hs : M.1 120 3 = nI s9) (hs6 : s9 ≤ 6) (hd4 : d ≤ 4) (v p : Nat) (w : Int32) (hv : v < n) (hp : p < d) (hw : wit w (-9) (nI 9) = true) : ∀ sz : Nat, Met l yX7_label (.code yX7_label cX7_label 5 (some .int) :: TT) { frames := 4, cells := 0, slots := 0, locals := 124 } (va_Pc [.ref (ad 117), .int (nI v), .int (nI p), .int w] (fun U9 => U9.heap.size = sz ∧ wB D cs ad (fA ad sz) M U9 ∧ xX (fA ad sz) U9 U9.heap)) (va_Qi (fun r M2 => r = z (18 + 4 * v + p) ∧ ∃ M1, svP M M1 z n d lt s9 (M.1 117 9) ∧ M2 = mI M1 (gR 0 v) p w) (wB D cs ad (fA ad sz)) (fA ad sz)) 0 0 (fA ad sz) := by
  refine sn_I (by decide) (Nat.le_of_ble_eq_true rfl) (fun κ C hN E => ?_)
  refine r_lv (lv2 := [(0, .ref (ad 117)), (1, .int (nI v)), (2, .int (nI p)), (3, .int w)]) [0, 1, 2, 3] rfl ?_
  refine r_aload_n C dX7_label_0 rfl 0 rfl ?_
  refine r_iload_n C dX7_label_1 rfl 1 rfl ?_
  refine r_pcallV_v (nA := 1) C (Nat.le_of_ble_eq_true rfl) [.int (nI v)] (c_X7_checkVertex l D cs ad M  n hg.1 hn8 v (by omega)) (tt_V ml_X7_87 im_X7_checkVertex se_X7_checkVertex in_X7 co_X7_checkVertex) ⟨rfl, rfl⟩ ⟨rfl, by decide, by decide, by decide⟩ ⟨Nat.le_of_ble_eq_true rfl, Nat.le_of_ble_eq_true rfl⟩ (by decide) rfl rfl rfl rfl rfl (Nat.le_of_ble_eq_true rfl) dX7_label_2 ?_
  refine r_aload_n C dX7_label_5 rfl 0 rfl ?_
  refine r_iload_n C dX7_label_6 rfl 2 rfl ?_
  refine r_pcallV_v (nA := 1) C (Nat.le_of_ble_eq_true rfl) [.int (nI p)] (c_X7_checkPlace l D cs ad M  d hg.2.1 hd4 p (by omega)) (tt_V ml_X7_135 im_X7_checkPlace se_X7_checkPlace in_X7 co_X7_checkPlace) ⟨rfl, rfl⟩ ⟨rfl, by decide, by decide, by decide⟩ ⟨Nat.le_of_ble_eq_true rfl, Nat.le_of_ble_eq_true rfl⟩ (by decide) rfl rfl rfl rfl rfl (Nat.le_of_ble_eq_true rfl) dX7_label_7 ?_
  refine r_iload_n C dX7_label_10 rfl 3 rfl ?_
  refine r_pcallS_v (nA := 1) C (Nat.le_of_ble_eq_true rfl) [.int w] (c_X7_checkNumber l D cs ad M  w hw) (tt_S ml_X7_138 st_X7_checkNumber in_X7 co_X7_checkNumber) ⟨rfl, rfl⟩ ⟨rfl, by decide, by decide, by decide⟩ ⟨Nat.le_of_ble_eq_true rfl, Nat.le_of_ble_eq_true rfl⟩ rfl rfl (Nat.le_of_ble_eq_true rfl) dX7_label_11 ?_
  refine r_aload_n C dX7_label_14 rfl 0 rfl ?_
  refine r_get C (Cn := RX7) (T := TX7) (N := 10) (id := 117) (by decide) inw_X7 rfl rfl 0 (by decide) rfl fl_X7_12 rfl dX7_label_15 ?_
  refine r_get C (Cn := RX4) (T := TX4) (N := 6) (id := (gO 0)) (by simp only [gO, gN, gW, gL, gR, gH] <;> omega) inw_X4 (wF_O cs ad (by decide) _ _) rfl 4 (by decide) rfl fl_X7_141 rfl dX7_label_18 ?_
  refine r_iload_n C dX7_label_21 rfl 1 rfl ?_
  refine r_aald C (id := (gL 0)) (n := 8) (a := v) (id2 := (gR 0 v)) (t0 := 4) (by simp only [gO, gN, gW, gL, gR, gH] <;> omega) (wF_L cs ad (by decide) _ _) rfl rfl (by omega) (by decide) (if_pos (by omega)) dX7_label_22 ?_
  refine r_iload_n C dX7_label_23 rfl 2 rfl ?_
  refine r_iald C (id := (gR 0 v)) (n := 4) (a := p) (by simp only [gO, gN, gW, gL, gR, gH] <;> omega) (wF_R cs ad (by decide) (by omega) _ _) (by omega) (by decide) dX7_label_24 ?_
  refine r_topi (w := (z (18 + 4 * v + p))) (hg.2.2.2.2.1 v p (by omega) (by omega)) ?_
  refine r_istore C [(4, .int (z (18 + 4 * v + p))), (0, .ref (ad 117)), (1, .int (nI v)), (2, .int (nI p)), (3, .int w)] dX7_label_25 (by decide) rfl ?_
  refine r_aload_n C dX7_label_27 rfl 1 rfl ?_
  refine r_callV_v (nA := 0) C (Nat.le_of_ble_eq_true rfl) [] (c_X7_saveState l D cs ad M  z n d hg hn8 lt hlt hlt6 s9 hs hs6) (tt_V ml_X7_80 im_X7_saveState se_X7_saveState in_X7 co_X7_saveState) ⟨rfl, rfl⟩ ⟨rfl, by decide, by decide, by decide⟩ ⟨Nat.le_of_ble_eq_true rfl, Nat.le_of_ble_eq_true rfl⟩ (by decide) rfl rfl rfl rfl rfl (Nat.le_of_ble_eq_true rfl) dX7_label_28 (fun Mu1 qu1 => ?_)
  refine r_aload_n C dX7_label_31 rfl 1 rfl ?_
  refine r_get C (Cn := RX7) (T := TX7) (N := 10) (id := 117) (by decide) inw_X7 rfl rfl 0 (by decide) rfl fl_X7_12 rfl dX7_label_32 ?_
  refine r_get C (Cn := RX4) (T := TX4) (N := 6) (id := (gO 0)) (by simp only [gO, gN, gW, gL, gR, gH] <;> omega) inw_X4 (wF_O cs ad (by decide) _ _) rfl 4 (by decide) rfl fl_X7_141 rfl dX7_label_35 ?_
  refine r_iload_n C dX7_label_38 rfl 2 rfl ?_
  refine r_aald C (id := (gL 0)) (n := 8) (a := v) (id2 := (gR 0 v)) (t0 := 4) (by simp only [gO, gN, gW, gL, gR, gH] <;> omega) (wF_L cs ad (by decide) _ _) rfl rfl (by omega) (by decide) (if_pos (by omega)) dX7_label_39 ?_
  refine r_iload_n C dX7_label_40 rfl 3 rfl ?_
  refine r_iload_n C dX7_label_41 rfl 4 rfl ?_
  refine r_iast C (id := (gR 0 v)) (n := 4) (a := p) (by simp only [gO, gN, gW, gL, gR, gH] <;> omega) (fun _ => (wF_R cs ad (by decide) (by omega) _ _)) (by omega) (by decide) dX7_label_42 ?_
  refine r_iload C dX7_label_43 0 rfl ?_
  exact E 0 _ _ _ _ (Nat.le_of_ble_eq_true rfl) dX7_label_45 (⟨rfl, _, qu1, rfl⟩)
set_option maxRecDepth 100000 in
set_option maxHeartbeats 4000000 in
theorem c_X7_hold (l : Launch) (D : va_G) (cs : Nat → ClassId) (ad : Nat → Nat) (M : Mm) (z : Nat → Int32) (n d : Nat) (hg : gv M 0 (gH 0) z n d) (hn8 : n ≤ 8) (lt : Nat) (hlt : M.1 120 2 = nI lt) (hlt6 : lt < 6) (s9 : Nat) (hs : M.1 120 3 = nI s9) (hs6 : s9 ≤ 6) (hd4 : d ≤ 4) (p : Nat) (w : Int32) (hp : p < d) (hw : wit w (-9) (nI 9) = true) : ∀ sz : Nat, Met l yX7_hold (.code yX7_hold cX7_hold 4 (some .int) :: TT) { frames := 4, cells := 0, slots := 0, locals := 124 } (va_Pc [.ref (ad 117), .int (nI p), .int w] (fun U9 => U9.heap.size = sz ∧ wB D cs ad (fA ad sz) M U9 ∧ xX (fA ad sz) U9 U9.heap)) (va_Qi (fun r M2 => r = z (50 + p) ∧ ∃ M1, svP M M1 z n d lt s9 (M.1 117 9) ∧ M2 = mI M1 (gH 0) p w) (wB D cs ad (fA ad sz)) (fA ad sz)) 0 0 (fA ad sz) := by
  refine sn_I (by decide) (Nat.le_of_ble_eq_true rfl) (fun κ C hN E => ?_)
  refine r_lv (lv2 := [(0, .ref (ad 117)), (1, .int (nI p)), (2, .int w)]) [0, 1, 2] rfl ?_
  refine r_aload_n C dX7_hold_0 rfl 0 rfl ?_
  refine r_iload_n C dX7_hold_1 rfl 1 rfl ?_
  refine r_pcallV_v (nA := 1) C (Nat.le_of_ble_eq_true rfl) [.int (nI p)] (c_X7_checkPlace l D cs ad M  d hg.2.1 hd4 p (by omega)) (tt_V ml_X7_135 im_X7_checkPlace se_X7_checkPlace in_X7 co_X7_checkPlace) ⟨rfl, rfl⟩ ⟨rfl, by decide, by decide, by decide⟩ ⟨Nat.le_of_ble_eq_true rfl, Nat.le_of_ble_eq_true rfl⟩ (by decide) rfl rfl rfl rfl rfl (Nat.le_of_ble_eq_true rfl) dX7_hold_2 ?_
  refine r_iload_n C dX7_hold_5 rfl 2 rfl ?_
  refine r_pcallS_v (nA := 1) C (Nat.le_of_ble_eq_true rfl) [.int w] (c_X7_checkNumber l D cs ad M  w hw) (tt_S ml_X7_138 st_X7_checkNumber in_X7 co_X7_checkNumber) ⟨rfl, rfl⟩ ⟨rfl, by decide, by decide, by decide⟩ ⟨Nat.le_of_ble_eq_true rfl, Nat.le_of_ble_eq_true rfl⟩ rfl rfl (Nat.le_of_ble_eq_true rfl) dX7_hold_6 ?_
  refine r_aload_n C dX7_hold_9 rfl 0 rfl ?_
  refine r_get C (Cn := RX7) (T := TX7) (N := 10) (id := 117) (by decide) inw_X7 rfl rfl 0 (by decide) rfl fl_X7_12 rfl dX7_hold_10 ?_
  refine r_get C (Cn := RX4) (T := TX4) (N := 6) (id := (gO 0)) (by simp only [gO, gN, gW, gL, gR, gH] <;> omega) inw_X4 (wF_O cs ad (by decide) _ _) rfl 5 (by decide) rfl fl_X7_145 rfl dX7_hold_13 ?_
  refine r_iload_n C dX7_hold_16 rfl 1 rfl ?_
  refine r_iald C (id := (gH 0)) (n := 4) (a := p) (by simp only [gO, gN, gW, gL, gR, gH] <;> omega) (wF_H cs ad (by decide) _ _) (by omega) (by decide) dX7_hold_17 ?_
  refine r_topi (w := (z (50 + p))) (hg.2.2.2.2.2 p (by omega)) ?_
  refine r_istore_n C [(3, .int (z (50 + p))), (0, .ref (ad 117)), (1, .int (nI p)), (2, .int w)] dX7_hold_18 rfl (by decide) rfl ?_
  refine r_aload_n C dX7_hold_19 rfl 1 rfl ?_
  refine r_callV_v (nA := 0) C (Nat.le_of_ble_eq_true rfl) [] (c_X7_saveState l D cs ad M  z n d hg hn8 lt hlt hlt6 s9 hs hs6) (tt_V ml_X7_80 im_X7_saveState se_X7_saveState in_X7 co_X7_saveState) ⟨rfl, rfl⟩ ⟨rfl, by decide, by decide, by decide⟩ ⟨Nat.le_of_ble_eq_true rfl, Nat.le_of_ble_eq_true rfl⟩ (by decide) rfl rfl rfl rfl rfl (Nat.le_of_ble_eq_true rfl) dX7_hold_20 (fun Mu1 qu1 => ?_)
  refine r_aload_n C dX7_hold_23 rfl 1 rfl ?_
  refine r_get C (Cn := RX7) (T := TX7) (N := 10) (id := 117) (by decide) inw_X7 rfl rfl 0 (by decide) rfl fl_X7_12 rfl dX7_hold_24 ?_
  refine r_get C (Cn := RX4) (T := TX4) (N := 6) (id := (gO 0)) (by simp only [gO, gN, gW, gL, gR, gH] <;> omega) inw_X4 (wF_O cs ad (by decide) _ _) rfl 5 (by decide) rfl fl_X7_145 rfl dX7_hold_27 ?_
  refine r_iload_n C dX7_hold_30 rfl 2 rfl ?_
  refine r_iload_n C dX7_hold_31 rfl 3 rfl ?_
  refine r_iast C (id := (gH 0)) (n := 4) (a := p) (by simp only [gO, gN, gW, gL, gR, gH] <;> omega) (fun _ => (wF_H cs ad (by decide) _ _)) (by omega) (by decide) dX7_hold_32 ?_
  refine r_iload_n C dX7_hold_33 rfl 0 rfl ?_
  exact E 0 _ _ _ _ (Nat.le_of_ble_eq_true rfl) dX7_hold_34 (⟨rfl, _, qu1, rfl⟩)
