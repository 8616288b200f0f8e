/-! ===== the class: its calls, 3 (written by wip/whole/gen/cls18.py) ===== -/
set_option maxRecDepth 100000 in
set_option maxHeartbeats 4000000 in
theorem c_X7_joined (l : Launch) (D : va_G) (cs : Nat → ClassId) (ad : Nat → Nat) (M : Mm) (z : Nat → Int32) (n d : Nat) (hg : gv M 0 (gH 0) z n d) (hn8 : n ≤ 8) (hm : gm z n) (a b : Nat) (ha : a < n) (hb : b < n) : ∀ sz : Nat, Met l yX7_joined (.code yX7_joined cX7_joined 3 (some .int) :: TT) { frames := 1, cells := 0, slots := 0, locals := 22 } (va_Pc [.ref (ad 117), .int (nI a), .int (nI b)] (fun U9 => U9.heap.size = sz ∧ wB D cs ad (fA ad sz) M U9 ∧ xX (fA ad sz) U9 U9.heap)) (va_Qi (fun r M2 => r = bI (bt (z (10 + a)) b) ∧ M2 = M) (wB D cs ad (fA ad sz)) (fA ad sz)) 0 0 (fA ad sz) := by
  refine sn_I (by decide) (Nat.le_of_ble_eq_true rfl) (fun κ C hN E => ?_)
  refine r_lv (lv2 := [(0, .ref (ad 117)), (1, .int (nI a)), (2, .int (nI b))]) [0, 1, 2] rfl ?_
  refine r_aload_n C dX7_joined_0 rfl 0 rfl ?_
  refine r_iload_n C dX7_joined_1 rfl 1 rfl ?_
  refine r_pcallV_v (nA := 1) C (Nat.le_of_ble_eq_true rfl) [.int (nI a)] (c_X7_checkVertex l D cs ad M  n hg.1 hn8 a (by omega)) (tt_V ml_X7_87 im_X7_checkVertex se_X7_checkVertex in_X7 co_X7_checkVertex) ⟨rfl, rfl⟩ ⟨rfl, by decide, by decide, by decide⟩ ⟨Nat.le_of_ble_eq_true rfl, Nat.le_of_ble_eq_true rfl⟩ (by decide) rfl rfl rfl rfl rfl (Nat.le_of_ble_eq_true rfl) dX7_joined_2 ?_
  refine r_aload_n C dX7_joined_5 rfl 0 rfl ?_
  refine r_iload_n C dX7_joined_6 rfl 2 rfl ?_
  refine r_pcallV_v (nA := 1) C (Nat.le_of_ble_eq_true rfl) [.int (nI b)] (c_X7_checkVertex l D cs ad M  n hg.1 hn8 b (by omega)) (tt_V ml_X7_87 im_X7_checkVertex se_X7_checkVertex in_X7 co_X7_checkVertex) ⟨rfl, rfl⟩ ⟨rfl, by decide, by decide, by decide⟩ ⟨Nat.le_of_ble_eq_true rfl, Nat.le_of_ble_eq_true rfl⟩ (by decide) rfl rfl rfl rfl rfl (Nat.le_of_ble_eq_true rfl) dX7_joined_7 ?_
  refine r_aload_n C dX7_joined_10 rfl 0 rfl ?_
  refine r_get C (Cn := RX7) (T := TX7) (N := 10) (id := 117) (by decide) inw_X7 rfl rfl 0 (by decide) rfl fl_X7_12 rfl dX7_joined_11 ?_
  refine r_iload_n C dX7_joined_14 rfl 1 rfl ?_
  refine r_iload_n C dX7_joined_15 rfl 2 rfl ?_
  refine r_pcallV_i (nA := 2) C (Nat.le_of_ble_eq_true rfl) [.int (nI a), .int (nI b)] (c_X4_areJoined l D cs ad M 0  (by decide) (gH 0) z n d hg hn8 hm a b (by omega) (by omega)) (tt_V ml_X7_228 im_X4_areJoined se_X4_areJoined in_X4 co_X4_areJoined) ⟨rfl, rfl⟩ ⟨rfl, by decide, by decide, by decide⟩ ⟨Nat.le_of_ble_eq_true rfl, Nat.le_of_ble_eq_true rfl⟩ (by simp only [gO, gN, gW, gL, gR, gH] <;> omega) (wF_O cs ad (by decide) _ _) rfl rfl rfl rfl (Nat.le_of_ble_eq_true rfl) dX7_joined_16 ?_
  refine r_ifB_eq C 26 dX7_joined_19 (by decide) (fun h19 => ?_) (fun h19 => ?_)
  ·
    refine r_iconst C (nI 0) dX7_joined_26 (by decide) ?_
    exact E 0 _ _ _ _ (Nat.le_of_ble_eq_true rfl) dX7_joined_27 (⟨bI_off h19, rfl⟩)
  ·
    refine r_iconst C (nI 1) dX7_joined_22 (by decide) ?_
    refine r_goto C 27 dX7_joined_23 (by decide) ?_
    exact E 0 _ _ _ _ (Nat.le_of_ble_eq_true rfl) dX7_joined_27 (⟨bI_on h19, rfl⟩)
def lkP (M M2 : Mm) : Prop := ∀ i, ¬ (125 ≤ i ∧ i ≤ 134) → M2.1 i = M.1 i ∧ M2.2 i = M.2 i
theorem sg_lk {z : Nat → Int32} {n : Nat} {M M1 : Mm} (h : sgP z n M M1) : lkP M M1 := fun i hi => ⟨h.1 i (by omega), by rw [h.2.1]⟩
theorem lkP.tr {M M1 M2 : Mm} (h : lkP M M1) (h2 : lkP M1 M2) : lkP M M2 := fun i hi => ⟨(h2 i hi).1.trans (h i hi).1, (h2 i hi).2.trans (h i hi).2⟩
theorem oB_lk {b : Nat} {M M1 : Mm} (h : oB b M M1) (hb : 125 ≤ b ∧ b ≤ 134) : lkP M M1 := fun i hi => ⟨h.1 i (by omega), h.2 i (by omega)⟩
theorem rn_lk {z : Nat → Int32} {n d b size : Nat} {wt U : Nat → Nat} {S : Nat → Nat → Nat} {H : Nat → Nat} {M M1 : Mm} (h : rnA z n d b size wt U S H M M1) : lkP M M1 := fun i hi => h.1 i (by omega)
theorem sg_id {z : Nat → Int32} {n i : Nat} {M M1 : Mm} (h : sgP z n M M1) (hi : ¬ (125 ≤ i ∧ i ≤ 128)) : M1.1 i = M.1 i := h.1 i hi
set_option maxRecDepth 100000 in
set_option maxHeartbeats 4000000 in
theorem c_X7_vertex (l : Launch) (D : va_G) (cs : Nat → ClassId) (ad : Nat → Nat) (M : Mm) (z : Nat → Int32) (n d : Nat) (hg : gv M 0 (gH 0) z n d) (hn8 : n ≤ 8) (hm : gm z n) (mk wt9 : Nat → Nat) (hk : gk z n mk) (hw9 : gw z n wt9) (hsy : gs z n) (hn1 : 1 ≤ n) (v w : Nat) (hv : v < n) (hw : w ≤ 5 ∨ (10 ≤ w ∧ w ≤ 13)) : ∀ sz : Nat, Met l yX7_vertex (.code yX7_vertex cX7_vertex 3 (some .int) :: TT) { frames := 42, cells := 0, slots := 0, locals := 1042 } (va_Pc [.ref (ad 117), .int (nI v), .int (nI w)] (fun U9 => U9.heap.size = sz ∧ wB D cs ad (fA ad sz) M U9 ∧ xX (fA ad sz) U9 U9.heap)) (va_Qi (fun r M2 => r = vnz z n v w ∧ lkP M M2) (wB D cs ad (fA ad sz)) (fA ad sz)) 0 0 (fA ad sz) := by
  refine sn_I (by decide) (Nat.le_of_ble_eq_true rfl) (fun κ C hN E => ?_)
  refine r_lv (lv2 := [(0, .ref (ad 117)), (1, .int (nI v)), (2, .int (nI w))]) [0, 1, 2] rfl ?_
  refine r_aload_n C dX7_vertex_0 rfl 0 rfl ?_
  refine r_iload_n C dX7_vertex_1 rfl 1 rfl ?_
  refine r_pcallV_v (nA := 1) C (Nat.le_of_ble_eq_true rfl) [.int (nI v)] (c_X7_checkVertex l D cs ad M  n hg.1 hn8 v (by omega)) (tt_V ml_X7_87 im_X7_checkVertex se_X7_checkVertex in_X7 co_X7_checkVertex) ⟨rfl, rfl⟩ ⟨rfl, by decide, by decide, by decide⟩ ⟨Nat.le_of_ble_eq_true rfl, Nat.le_of_ble_eq_true rfl⟩ (by decide) rfl rfl rfl rfl rfl (Nat.le_of_ble_eq_true rfl) dX7_vertex_2 ?_
  refine r_iload_n C dX7_vertex_5 rfl 2 rfl ?_
  refine r_if_lt C 26 dX7_vertex_6 (by decide) (fun h6 => ?_) (fun h6 => ?_)
  · exact absurd h6 (nI_n0 (by omega))
  ·
    refine r_iload_n C dX7_vertex_9 rfl 2 rfl ?_
    refine r_bipush C (nI 13) dX7_vertex_10 (by decide) ?_
    refine r_icmpN_gt C 26 dX7_vertex_12 (by decide) (by omega) (by omega) (fun h12 => ?_) (fun h12 => ?_)
    ·
      exfalso; omega
    ·
      refine r_iload_n C dX7_vertex_15 rfl 2 rfl ?_
      refine r_iconst C (nI 5) dX7_vertex_16 (by decide) ?_
      refine r_icmpN_le C 36 dX7_vertex_17 (by decide) (by omega) (by omega) (fun h17 => ?_) (fun h17 => ?_)
      ·
        refine r_aload_n C dX7_vertex_36 rfl 0 rfl ?_
        refine r_callV_v (nA := 0) C (Nat.le_of_ble_eq_true rfl) [] (c_X7_searchGraph l D cs ad M  z n d hg hn8 hm hsy hn1) (tt_V ml_X7_234 im_X7_searchGraph se_X7_searchGraph in_X7 co_X7_searchGraph) ⟨rfl, rfl⟩ ⟨rfl, by decide, by decide, by decide⟩ ⟨Nat.le_of_ble_eq_true rfl, Nat.le_of_ble_eq_true rfl⟩ (by decide) rfl rfl rfl rfl rfl (Nat.le_of_ble_eq_true rfl) dX7_vertex_37 (fun Mu1 qu1 => ?_)
        refine r_aload_n C dX7_vertex_40 rfl 0 rfl ?_
        refine r_iload_n C dX7_vertex_41 rfl 1 rfl ?_
        refine r_iload_n C dX7_vertex_42 rfl 2 rfl ?_
        refine r_pcallV_i (nA := 2) C (Nat.le_of_ble_eq_true rfl) [.int (nI v), .int (nI w)] (c_X7_propertyOf l D cs ad Mu1  z n d (sg_gv qu1 hg hn8) hn8 hm mk wt9 hk hw9 hsy qu1.2.2.2.1 qu1.2.2.2.2 v w hv hw) (tt_V ml_X7_237 im_X7_propertyOf se_X7_propertyOf in_X7 co_X7_propertyOf) ⟨rfl, rfl⟩ ⟨rfl, by decide, by decide, by decide⟩ ⟨Nat.le_of_ble_eq_true rfl, Nat.le_of_ble_eq_true rfl⟩ (by decide) rfl rfl rfl rfl rfl (Nat.le_of_ble_eq_true rfl) dX7_vertex_43 ?_
        exact E 0 _ _ _ _ (Nat.le_of_ble_eq_true rfl) dX7_vertex_46 (⟨rfl, sg_lk qu1⟩)
      ·
        refine r_iload_n C dX7_vertex_20 rfl 2 rfl ?_
        refine r_bipush C (nI 10) dX7_vertex_21 (by decide) ?_
        refine r_icmpN_ge C 36 dX7_vertex_23 (by decide) (by omega) (by omega) (fun h23 => ?_) (fun h23 => ?_)
        ·
          refine r_aload_n C dX7_vertex_36 rfl 0 rfl ?_
          refine r_callV_v (nA := 0) C (Nat.le_of_ble_eq_true rfl) [] (c_X7_searchGraph l D cs ad M  z n d hg hn8 hm hsy hn1) (tt_V ml_X7_234 im_X7_searchGraph se_X7_searchGraph in_X7 co_X7_searchGraph) ⟨rfl, rfl⟩ ⟨rfl, by decide, by decide, by decide⟩ ⟨Nat.le_of_ble_eq_true rfl, Nat.le_of_ble_eq_true rfl⟩ (by decide) rfl rfl rfl rfl rfl (Nat.le_of_ble_eq_true rfl) dX7_vertex_37 (fun Mu2 qu2 => ?_)
          refine r_aload_n C dX7_vertex_40 rfl 0 rfl ?_
          refine r_iload_n C dX7_vertex_41 rfl 1 rfl ?_
          refine r_iload_n C dX7_vertex_42 rfl 2 rfl ?_
          refine r_pcallV_i (nA := 2) C (Nat.le_of_ble_eq_true rfl) [.int (nI v), .int (nI w)] (c_X7_propertyOf l D cs ad Mu2  z n d (sg_gv qu2 hg hn8) hn8 hm mk wt9 hk hw9 hsy qu2.2.2.2.1 qu2.2.2.2.2 v w hv hw) (tt_V ml_X7_237 im_X7_propertyOf se_X7_propertyOf in_X7 co_X7_propertyOf) ⟨rfl, rfl⟩ ⟨rfl, by decide, by decide, by decide⟩ ⟨Nat.le_of_ble_eq_true rfl, Nat.le_of_ble_eq_true rfl⟩ (by decide) rfl rfl rfl rfl rfl (Nat.le_of_ble_eq_true rfl) dX7_vertex_43 ?_
          exact E 0 _ _ _ _ (Nat.le_of_ble_eq_true rfl) dX7_vertex_46 (⟨rfl, sg_lk qu2⟩)
        ·
          exfalso; omega
set_option maxRecDepth 100000 in
set_option maxHeartbeats 4000000 in
theorem c_X7_handle (l : Launch) (D : va_G) (cs : Nat → ClassId) (ad : Nat → Nat) (M : Mm) (z : Nat → Int32) (n d : Nat) (hg : gv M 0 (gH 0) z n d) (hn8 : n ≤ 8) (hd4 : d ≤ 4) (p : Nat) (hp : p < d) : ∀ sz : Nat, Met l yX7_handle (.code yX7_handle cX7_handle 2 (some .int) :: TT) { frames := 1, cells := 0, slots := 0, locals := 21 } (va_Pc [.ref (ad 117), .int (nI p)] (fun U9 => U9.heap.size = sz ∧ wB D cs ad (fA ad sz) M U9 ∧ xX (fA ad sz) U9 U9.heap)) (va_Qi (fun r M2 => r = z (50 + p) ∧ M2 = M) (wB D cs ad (fA ad sz)) (fA ad sz)) 0 0 (fA ad sz) := by
  refine sn_I (by decide) (Nat.le_of_ble_eq_true rfl) (fun κ C hN E => ?_)
  refine r_lv (lv2 := [(0, .ref (ad 117)), (1, .int (nI p))]) [0, 1] rfl ?_
  refine r_aload_n C dX7_handle_0 rfl 0 rfl ?_
  refine r_iload_n C dX7_handle_1 rfl 1 rfl ?_
  refine r_pcallV_v (nA := 1) C (Nat.le_of_ble_eq_true rfl) [.int (nI p)] (c_X7_checkPlace l D cs ad M  d hg.2.1 hd4 p (by omega)) (tt_V ml_X7_135 im_X7_checkPlace se_X7_checkPlace in_X7 co_X7_checkPlace) ⟨rfl, rfl⟩ ⟨rfl, by decide, by decide, by decide⟩ ⟨Nat.le_of_ble_eq_true rfl, Nat.le_of_ble_eq_true rfl⟩ (by decide) rfl rfl rfl rfl rfl (Nat.le_of_ble_eq_true rfl) dX7_handle_2 ?_
  refine r_aload_n C dX7_handle_5 rfl 0 rfl ?_
  refine r_get C (Cn := RX7) (T := TX7) (N := 10) (id := 117) (by decide) inw_X7 rfl rfl 0 (by decide) rfl fl_X7_12 rfl dX7_handle_6 ?_
  refine r_get C (Cn := RX4) (T := TX4) (N := 6) (id := (gO 0)) (by simp only [gO, gN, gW, gL, gR, gH] <;> omega) inw_X4 (wF_O cs ad (by decide) _ _) rfl 5 (by decide) rfl fl_X7_145 rfl dX7_handle_9 ?_
  refine r_iload_n C dX7_handle_12 rfl 1 rfl ?_
  refine r_iald C (id := (gH 0)) (n := 4) (a := p) (by simp only [gO, gN, gW, gL, gR, gH] <;> omega) (wF_H cs ad (by decide) _ _) (by omega) (by decide) dX7_handle_13 ?_
  refine r_topi (w := (z (50 + p))) (hg.2.2.2.2.2 p (by omega)) ?_
  exact E 0 _ _ _ _ (Nat.le_of_ble_eq_true rfl) dX7_handle_14 (⟨rfl, rfl⟩)
set_option maxRecDepth 100000 in
set_option maxHeartbeats 4000000 in
theorem c_X7_bound (l : Launch) (D : va_G) (cs : Nat → ClassId) (ad : Nat → Nat) (M : Mm) (z : Nat → Int32) (n d : Nat) (hg : gv M 0 (gH 0) z n d) (hn8 : n ≤ 8) (hm : gm z n) (mk : Nat → Nat) (hk : gk z n mk) (wt U S : Nat → Nat) (H : Nat) (hBr : rsz z n = nI 0 → bnH z n wt U S H) (hpo : rsz z n = nI 0 → hpos n wt U H) (p : Nat) (hp : p ≤ 2) : ∀ sz : Nat, Met l yX7_bound (.code yX7_bound cX7_bound 2 (some .long) :: TT) { frames := 5, cells := 0, slots := 0, locals := 109 } (va_Pc [.ref (ad 117), .int (nI p)] (fun U9 => U9.heap.size = sz ∧ wB D cs ad (fA ad sz) M U9 ∧ xX (fA ad sz) U9 U9.heap)) (va_Ql (fun r M2 => r = bdz z n wt U S H p ∧ lkP M M2) (wB D cs ad (fA ad sz)) (fA ad sz)) 0 0 (fA ad sz) := by
  refine sn_L (by decide) (Nat.le_of_ble_eq_true rfl) (fun κ C hN E => ?_)
  refine r_lv (lv2 := [(0, .ref (ad 117)), (1, .int (nI p))]) [0, 1] rfl ?_
  refine r_iload_n C dX7_bound_0 rfl 1 rfl ?_
  refine r_pcallS_v (nA := 1) C (Nat.le_of_ble_eq_true rfl) [.int (nI p)] (c_X7_checkPart l D cs ad M  p hp) (tt_S ml_X7_241 st_X7_checkPart in_X7 co_X7_checkPart) ⟨rfl, rfl⟩ ⟨rfl, by decide, by decide, by decide⟩ ⟨Nat.le_of_ble_eq_true rfl, Nat.le_of_ble_eq_true rfl⟩ rfl rfl (Nat.le_of_ble_eq_true rfl) dX7_bound_1 ?_
  refine r_aload_n C dX7_bound_4 rfl 0 rfl ?_
  refine r_get C (Cn := RX7) (T := TX7) (N := 10) (id := 117) (by decide) inw_X7 rfl rfl 7 (by decide) rfl fl_X7_55 rfl dX7_bound_5 ?_
  refine r_aload_n C dX7_bound_8 rfl 0 rfl ?_
  refine r_get C (Cn := RX7) (T := TX7) (N := 10) (id := 117) (by decide) inw_X7 rfl rfl 0 (by decide) rfl fl_X7_12 rfl dX7_bound_9 ?_
  refine r_ncallV_v (nA := 1) C hN (Nat.le_of_ble_eq_true rfl) [.ref (ad (gO 0))] (c_X0_tellA l D cs ad M  129 (by decide) (by decide) (fun _ _ => rfl) z n d hg hn8 hm mk hk wt U S H hBr hpo) (tt_V ml_X7_244 im_X0_tellOf se_X0_tellOf in_X0 co_X0_tellOf) ⟨rfl, rfl⟩ ⟨rfl, by decide, by decide, by decide⟩ ⟨Nat.le_of_ble_eq_true rfl, Nat.le_of_ble_eq_true rfl⟩ (by decide) rfl rfl rfl rfl rfl (Nat.le_of_ble_eq_true rfl) dX7_bound_12 (fun Mu1 qu1 => ?_)
  refine r_aload_n C dX7_bound_15 rfl 0 rfl ?_
  refine r_get C (Cn := RX7) (T := TX7) (N := 10) (id := 117) (by decide) inw_X7 rfl rfl 7 (by decide) rfl fl_X7_55 rfl dX7_bound_16 ?_
  refine r_iload_n C dX7_bound_19 rfl 1 rfl ?_
  refine r_pcallV_l (nA := 1) C (Nat.le_of_ble_eq_true rfl) [.int (nI p)] (c_X0_partOf l D cs ad Mu1  129 (by decide) (fun _ _ => rfl) p (by omega) _ _ _ rfl rfl rfl) (tt_V ml_X7_247 im_X0_partOf se_X0_partOf in_X0 co_X0_partOf) ⟨rfl, rfl⟩ ⟨rfl, by decide, by decide, by decide⟩ ⟨Nat.le_of_ble_eq_true rfl, Nat.le_of_ble_eq_true rfl⟩ (by decide) rfl rfl rfl rfl rfl (Nat.le_of_ble_eq_true rfl) dX7_bound_20 ?_
  exact E 0 _ _ _ _ (Nat.le_of_ble_eq_true rfl) dX7_bound_23 (⟨tl_p qu1.2, oB_lk qu1.1 (by decide)⟩)
set_option maxRecDepth 100000 in
set_option maxHeartbeats 4000000 in
theorem c_X7_whyNot (l : Launch) (D : va_G) (cs : Nat → ClassId) (ad : Nat → Nat) (M : Mm) (z : Nat → Int32) (n d : Nat) (hg : gv M 0 (gH 0) z n d) (hn8 : n ≤ 8) (hm : gm z n) (mk : Nat → Nat) (hk : gk z n mk) (p : Nat) (hp : p ≤ 2) : ∀ sz : Nat, Met l yX7_whyNot (.code yX7_whyNot cX7_whyNot 2 (some .int) :: TT) { frames := 5, cells := 0, slots := 0, locals := 111 } (va_Pc [.ref (ad 117), .int (nI p)] (fun U9 => U9.heap.size = sz ∧ wB D cs ad (fA ad sz) M U9 ∧ xX (fA ad sz) U9 U9.heap)) (va_Qi (fun r M2 => r = rnz z n p ∧ M2 = M) (wB D cs ad (fA ad sz)) (fA ad sz)) 0 0 (fA ad sz) := by
  refine sn_I (by decide) (Nat.le_of_ble_eq_true rfl) (fun κ C hN E => ?_)
  refine r_lv (lv2 := [(0, .ref (ad 117)), (1, .int (nI p))]) [0, 1] rfl ?_
  refine r_iload_n C dX7_whyNot_0 rfl 1 rfl ?_
  refine r_pcallS_v (nA := 1) C (Nat.le_of_ble_eq_true rfl) [.int (nI p)] (c_X7_checkPart l D cs ad M  p hp) (tt_S ml_X7_241 st_X7_checkPart in_X7 co_X7_checkPart) ⟨rfl, rfl⟩ ⟨rfl, by decide, by decide, by decide⟩ ⟨Nat.le_of_ble_eq_true rfl, Nat.le_of_ble_eq_true rfl⟩ rfl rfl (Nat.le_of_ble_eq_true rfl) dX7_whyNot_1 ?_
  refine r_aload_n C dX7_whyNot_4 rfl 0 rfl ?_
  refine r_iload_n C dX7_whyNot_5 rfl 1 rfl ?_
  refine r_npcallV_i (nA := 1) C hN (Nat.le_of_ble_eq_true rfl) [.int (nI p)] (c_X7_whyNoBound l D cs ad M  z n d hg hn8 hm mk hk p (by omega)) (tt_V ml_X7_251 im_X7_whyNoBound se_X7_whyNoBound in_X7 co_X7_whyNoBound) ⟨rfl, rfl⟩ ⟨rfl, by decide, by decide, by decide⟩ ⟨Nat.le_of_ble_eq_true rfl, Nat.le_of_ble_eq_true rfl⟩ (by decide) rfl rfl rfl rfl rfl (Nat.le_of_ble_eq_true rfl) dX7_whyNot_6 ?_
  exact E 0 _ _ _ _ (Nat.le_of_ble_eq_true rfl) dX7_whyNot_9 (⟨rfl, rfl⟩)
set_option maxRecDepth 100000 in
set_option maxHeartbeats 4000000 in
theorem c_X7_count (l : Launch) (D : va_G) (cs : Nat → ClassId) (ad : Nat → Nat) (M : Mm) (z : Nat → Int32) (n d : Nat) (hg : gv M 0 (gH 0) z n d) (hn8 : n ≤ 8) (hm : gm z n) (mk wt9 : Nat → Nat) (hk : gk z n mk) (hw9 : gw z n wt9) (hsy : gs z n) (hn1 : 1 ≤ n) (hpm : M.1 117 9 = z 54) (htk : ∀ k, k < 2 → M.1 119 k = nI 0 ∨ M.1 119 k = nI 1) (k : Nat) (hk9 : k ≤ 11) : ∀ sz : Nat, Met l yX7_count (.code yX7_count cX7_count 2 (some .int) :: TT) { frames := 42, cells := 0, slots := 0, locals := 1042 } (va_Pc [.ref (ad 117), .int (nI k)] (fun U9 => U9.heap.size = sz ∧ wB D cs ad (fA ad sz) M U9 ∧ xX (fA ad sz) U9 U9.heap)) (va_Qi (fun r M2 => r = ctz z (M.1 119) (M.1 120 3) n d k ∧ lkP M M2) (wB D cs ad (fA ad sz)) (fA ad sz)) 0 0 (fA ad sz) := by
  refine sn_I (by decide) (Nat.le_of_ble_eq_true rfl) (fun κ C hN E => ?_)
  refine r_lv (lv2 := [(0, .ref (ad 117)), (1, .int (nI k))]) [0, 1] rfl ?_
  refine r_iload_n C dX7_count_0 rfl 1 rfl ?_
  refine r_if_lt C 10 dX7_count_1 (by decide) (fun h1 => ?_) (fun h1 => ?_)
  · exact absurd h1 (nI_n0 (by omega))
  ·
    refine r_iload_n C dX7_count_4 rfl 1 rfl ?_
    refine r_bipush C (nI 11) dX7_count_5 (by decide) ?_
    refine r_icmpN_le C 21 dX7_count_7 (by decide) (by omega) (by omega) (fun h7 => ?_) (fun h7 => ?_)
    ·
      refine r_aload_n C dX7_count_21 rfl 0 rfl ?_
      refine r_callV_v (nA := 0) C (Nat.le_of_ble_eq_true rfl) [] (c_X7_searchGraph l D cs ad M  z n d hg hn8 hm hsy hn1) (tt_V ml_X7_234 im_X7_searchGraph se_X7_searchGraph in_X7 co_X7_searchGraph) ⟨rfl, rfl⟩ ⟨rfl, by decide, by decide, by decide⟩ ⟨Nat.le_of_ble_eq_true rfl, Nat.le_of_ble_eq_true rfl⟩ (by decide) rfl rfl rfl rfl rfl (Nat.le_of_ble_eq_true rfl) dX7_count_22 (fun Mu1 qu1 => ?_)
      refine r_aload_n C dX7_count_25 rfl 0 rfl ?_
      refine r_iload_n C dX7_count_26 rfl 1 rfl ?_
      refine r_npcallV_i (nA := 1) C hN (Nat.le_of_ble_eq_true rfl) [.int (nI k)] (c_X7_numberOf l D cs ad Mu1  z n d (sg_gv qu1 hg hn8) hn8 hm mk wt9 hk hw9 hsy qu1.2.2.2.1 qu1.2.2.2.2 qu1.2.2.1 (by rw [sg_id qu1 (by decide)]; exact hpm) (by rw [sg_id qu1 (by decide)]; exact htk) k (by omega)) (tt_V ml_X7_261 im_X7_numberOf se_X7_numberOf in_X7 co_X7_numberOf) ⟨rfl, rfl⟩ ⟨rfl, by decide, by decide, by decide⟩ ⟨Nat.le_of_ble_eq_true rfl, Nat.le_of_ble_eq_true rfl⟩ (by decide) rfl rfl rfl rfl rfl (Nat.le_of_ble_eq_true rfl) dX7_count_27 ?_
      exact E 0 _ _ _ _ (Nat.le_of_ble_eq_true rfl) dX7_count_30 (⟨by rw [sg_id qu1 (by decide), sg_id qu1 (by decide)], sg_lk qu1⟩)
    ·
      exfalso; omega
set_option maxRecDepth 100000 in
set_option maxHeartbeats 4000000 in
theorem c_X7_nearness (l : Launch) (D : va_G) (cs : Nat → ClassId) (ad : Nat → Nat) (M : Mm) (z : Nat → Int32) (n d : Nat) (hg : gv M 0 (gH 0) z n d) (hn8 : n ≤ 8) (hm : gm z n) (mk wt9 : Nat → Nat) (hk : gk z n mk) (hw9 : gw z n wt9) (hsy : gs z n) (hn1 : 1 ≤ n) (wt U S : Nat → Nat) (H : Nat) (hBr : rsz z n = nI 0 → bnH z n wt U S H) (hpo : rsz z n = nI 0 → hpos n wt U H) (hnn : rsz z n = nI 0 → ¬ bnA wt U S H n = 0 → vf_n64 (FP.dmul (FP.i2d (wz z n (hvz z n (nI 0)))) (FP.l2d (lN (bnB wt U S H n)))) ∧ vf_n64 (FP.ddiv (FP.dmul (FP.i2d (wz z n (hvz z n (nI 0)))) (FP.l2d (lN (bnB wt U S H n)))) (FP.l2d (lN (bnA wt U S H n))))) (hAb : bnA wt U S H n < 2 ^ 62) : ∀ sz : Nat, Met l yX7_nearness (.code yX7_nearness cX7_nearness 1 (some .double) :: TT) { frames := 42, cells := 0, slots := 0, locals := 1042 } (va_Pc [.ref (ad 117)] (fun U9 => U9.heap.size = sz ∧ wB D cs ad (fA ad sz) M U9 ∧ xX (fA ad sz) U9 U9.heap)) (va_Qd (fun r M2 => r = nrz z n wt U S H ∧ lkP M M2) (wB D cs ad (fA ad sz)) (fA ad sz)) 0 0 (fA ad sz) := by
  refine sn_D (by decide) (Nat.le_of_ble_eq_true rfl) (fun κ C hN E => ?_)
  refine r_lv (lv2 := [(0, .ref (ad 117))]) [0] rfl ?_
  refine r_aload_n C dX7_nearness_0 rfl 0 rfl ?_
  refine r_callV_v (nA := 0) C (Nat.le_of_ble_eq_true rfl) [] (c_X7_searchGraph l D cs ad M  z n d hg hn8 hm hsy hn1) (tt_V ml_X7_234 im_X7_searchGraph se_X7_searchGraph in_X7 co_X7_searchGraph) ⟨rfl, rfl⟩ ⟨rfl, by decide, by decide, by decide⟩ ⟨Nat.le_of_ble_eq_true rfl, Nat.le_of_ble_eq_true rfl⟩ (by decide) rfl rfl rfl rfl rfl (Nat.le_of_ble_eq_true rfl) dX7_nearness_1 (fun Mu1 qu1 => ?_)
  refine r_aload_n C dX7_nearness_4 rfl 0 rfl ?_
  refine r_ncallV_d (nA := 0) C hN (Nat.le_of_ble_eq_true rfl) [] (c_X7_share l D cs ad Mu1  z n d (sg_gv qu1 hg hn8) hn8 hm mk wt9 hk hw9 hsy qu1.2.2.2.1 qu1.2.2.2.2 wt U S H hBr hpo hnn hAb) (tt_V ml_X7_264 im_X7_share se_X7_share in_X7 co_X7_share) ⟨rfl, rfl⟩ ⟨rfl, by decide, by decide, by decide⟩ ⟨Nat.le_of_ble_eq_true rfl, Nat.le_of_ble_eq_true rfl⟩ (by decide) rfl rfl rfl rfl rfl (Nat.le_of_ble_eq_true rfl) dX7_nearness_5 (fun ru2 Mu2 qu2 => ?_)
  obtain ⟨rfl, qsu2⟩ := qu2
  exact E 0 _ _ _ _ (Nat.le_of_ble_eq_true rfl) dX7_nearness_8 (⟨rfl, (sg_lk qu1).tr (oB_lk qsu2 (by decide))⟩)
