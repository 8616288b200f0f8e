/-! ===== the class: labels by colors, history, texts (written by wip/whole/gen/cls5.py) ===== -/
/-- the next room of the ring -/
def nx6 (lt : Nat) : Nat := if lt + 1 < 6 then lt + 1 else 0
def pv6 (lt : Nat) : Nat := if lt = 0 then 5 else lt - 1
def mn6 (s : Nat) : Nat := if s + 1 < 6 then s + 1 else 6
/-- after a state was saved: its graph in the ring's next room, its number of products, how many there are -/
def svP (M M2 : Mm) (z : Nat → Int32) (n d lt s : Nat) (pm : Int32) : Prop := gv M2 (3 + nx6 lt) (gH (3 + nx6 lt)) z n d ∧ M2.1 120 2 = nI (nx6 lt) ∧ M2.1 120 3 = nI (mn6 s) ∧ M2.1 122 (nx6 lt) = pm ∧ (∀ j, j ≠ nx6 lt → M2.1 122 j = M.1 122 j) ∧ (∀ i, ¬ (13 * (3 + nx6 lt) ≤ i ∧ i < 13 * (3 + nx6 lt) + 13) → i ≠ 120 → i ≠ 122 → M2.1 i = M.1 i) ∧ M2.2 = M.2
theorem nx6_lt {lt : Nat} (h : lt < 6) : nx6 lt < 6 := by unfold nx6; split <;> omega
theorem sv_e {M M2 M3 : Mm} {z : Nat → Int32} {n d lt s : Nat} {pm : Int32} (hlt : lt < 6) (hn : n ≤ 8) (h2 : oG (3 + nx6 lt) (mI M 120 2 (nI (nx6 lt))) M2 ∧ gv M2 (3 + nx6 lt) (gH (3 + nx6 lt)) z n d) (e : M3 = mI (mI M2 122 (nx6 lt) pm) 120 3 (nI (mn6 s))) : svP M M3 z n d lt s pm := by
  subst e
  have hl := nx6_lt hlt
  refine ⟨gv_k h2.2 hn (fun i hi => ?_), ?_, ?_, ?_, fun j hj => ?_, fun i h1 h3 h4 => ?_, h2.1.2⟩
  · rw [mI_ne _ (by simp only [gH] at hi; omega), mI_ne _ (by simp only [gH] at hi; omega)]
  · rw [mI_eq, upd_n _ _ (by decide), mI_ne _ (by decide), h2.1.1 120 (by omega), mI_eq, upd_e]
  · rw [mI_eq, upd_e]
  · rw [mI_ne _ (by decide), mI_eq, upd_e]
  · rw [mI_ne _ (by decide), mI_eq, upd_n _ _ hj, h2.1.1 122 (by omega), mI_ne _ (by decide)]
  · rw [mI_ne _ h3, mI_ne _ h4, h2.1.1 i h1, mI_ne _ h3]
theorem mn6_m {s : Nat} (h : s ≤ 6) : (if nI 6 < nI (s + 1) then nI 6 else nI (s + 1)) = nI (mn6 s) := by
  have h2 : ∀ s : Fin 7, (if nI 6 < nI (s.val + 1) then nI 6 else nI (s.val + 1)) = nI (mn6 s.val) := by decide +kernel
  exact h2 ⟨s, by omega⟩
set_option maxRecDepth 100000 in
set_option maxHeartbeats 4000000 in
theorem c_X6_save (l : Launch) (D : va_G) (cs : Nat → ClassId) (ad : Nat → Nat) (M : Mm) (z : Nat → Int32) (n d : Nat) (hg : gv M 0 (gH 0) z n d) (hn8 : n ≤ 8) (lt : Nat) (hlt : M.1 120 2 = nI lt) (hlt6 : lt < 6) (s9 : Nat) (hs : M.1 120 3 = nI s9) (hs6 : s9 ≤ 6) (pm : Int32) : ∀ sz : Nat, Met l yX6_save (.code yX6_save cX6_save 3 none :: TT) { frames := 2, cells := 0, slots := 0, locals := 82 } (va_Pc [.ref (ad 120), .ref (ad (gO 0)), .int pm] (fun U9 => U9.heap.size = sz ∧ wB D cs ad (fA ad sz) M U9)) (va_Qv (fun M2 => svP M M2 z n d lt s9 pm) (wB D cs ad (fA ad sz)) (fA ad sz)) 0 0 (fA ad sz) := by
  refine st_V (by decide) (Nat.le_of_ble_eq_true rfl) (fun κ C E => ?_)
  refine r_lv (lv2 := [(0, .ref (ad 120)), (1, .ref (ad (gO 0))), (2, .int pm)]) [0, 1, 2] rfl ?_
  refine r_aload_n C dX6_save_0 rfl 0 rfl ?_
  refine r_aload_n C dX6_save_1 rfl 0 rfl ?_
  refine r_get C (Cn := RX6) (T := TX6) (N := 4) (id := 120) (by decide) inw_X6 rfl rfl 2 (by decide) rfl fl_X6_21 rfl dX6_save_2 ?_
  refine r_topi (w := nI lt) hlt ?_
  refine r_iconst C (nI 1) dX6_save_5 (by decide) ?_
  refine r_iadd C dX6_save_6 ?_
  refine r_topi (nI_add lt 1) ?_
  refine r_bipush C (nI 6) dX6_save_7 (by decide) ?_
  refine r_icmpN_ge C 21 dX6_save_9 (by decide) (by omega) (by omega) (fun h9 => ?_) (fun h9 => ?_)
  ·
    refine r_iconst C (nI 0) dX6_save_21 (by decide) ?_
    refine r_topi (w := nI (nx6 lt)) (congrArg nI (show _ = nx6 lt by unfold nx6; split <;> omega)) ?_
    have hl6 := nx6_lt hlt6
    refine r_put C (M2 := (mI M 120 2 (nI (nx6 lt)))) (Cn := RX6) (T := TX6) (N := 4) (id := 120) (by decide) inw_X6 tyX6_ok nmX6 rfl rfl 2 (by decide) rfl fl_X6_21 rfl rfl (rfl) (Nat.le_of_ble_eq_true rfl) (fun j hj => ⟨mI_ne _ hj, rfl⟩) rfl dX6_save_22 ?_
    refine r_aload_n C dX6_save_25 rfl 0 rfl ?_
    refine r_get C (Cn := RX6) (T := TX6) (N := 4) (id := 120) (by decide) inw_X6 rfl rfl 0 (by decide) rfl fl_X6_11 rfl dX6_save_26 ?_
    refine r_aload_n C dX6_save_29 rfl 0 rfl ?_
    refine r_get C (Cn := RX6) (T := TX6) (N := 4) (id := 120) (by decide) inw_X6 rfl rfl 2 (by decide) rfl fl_X6_21 rfl dX6_save_30 ?_
    refine r_topi (w := nI (nx6 lt)) (by rw [mI_eq, upd_e]) ?_
    refine r_aald C (id := 121) (n := 6) (a := nx6 lt) (id2 := (gO (3 + nx6 lt))) (t0 := 5) (by decide) rfl rfl rfl (by omega) (by decide) (if_pos (by omega)) dX6_save_33 ?_
    refine r_aload_n C dX6_save_34 rfl 1 rfl ?_
    refine r_callV_v (nA := 1) C (Nat.le_of_ble_eq_true rfl) [.ref (ad (gO 0))] (c_X4_copyFrom l D cs ad (mI M 120 2 (nI (nx6 lt)))  (3 + nx6 lt) 0 (by omega) (by decide) (by omega) z n d (gv_k hg hn8 (fun i hi => by rw [mI_ne _ (by simp only [gH] at hi; omega)])) hn8) (tt_V ml_X6_29 im_X4_copyFrom se_X4_copyFrom in_X4 co_X4_copyFrom) ⟨rfl, rfl⟩ ⟨rfl, by decide, by decide, by decide⟩ ⟨Nat.le_of_ble_eq_true rfl, Nat.le_of_ble_eq_true rfl⟩ (by simp only [gO, gN, gW, gL, gR, gH] <;> omega) (wF_O cs ad (by omega) _ _) rfl rfl rfl rfl (Nat.le_of_ble_eq_true rfl) dX6_save_35 (fun Mu1 qu1 => ?_)
    refine r_aload_n C dX6_save_38 rfl 0 rfl ?_
    refine r_get C (Cn := RX6) (T := TX6) (N := 4) (id := 120) (by decide) inw_X6 rfl rfl 1 (by decide) rfl fl_X6_17 rfl dX6_save_39 ?_
    refine r_aload_n C dX6_save_42 rfl 0 rfl ?_
    refine r_get C (Cn := RX6) (T := TX6) (N := 4) (id := 120) (by decide) inw_X6 rfl rfl 2 (by decide) rfl fl_X6_21 rfl dX6_save_43 ?_
    refine r_topi (w := nI (nx6 lt)) (by rw [qu1.1.1 120 (by omega), mI_eq, upd_e]) ?_
    refine r_iload_n C dX6_save_46 rfl 2 rfl ?_
    refine r_iast C (id := 122) (n := 6) (a := nx6 lt) (by decide) (fun _ => rfl) (by omega) (by decide) dX6_save_47 ?_
    refine r_aload_n C dX6_save_48 rfl 0 rfl ?_
    refine r_aload_n C dX6_save_49 rfl 0 rfl ?_
    refine r_get C (Cn := RX6) (T := TX6) (N := 4) (id := 120) (by decide) inw_X6 rfl rfl 3 (by decide) rfl fl_X6_25 rfl dX6_save_50 ?_
    refine r_topi (w := (Mu1.1 120 3)) (by rw [mI_ne _ (show 120 ≠ 122 from (by decide))]) ?_
    refine r_topi (w := nI s9) (by rw [qu1.1.1 120 (by omega), mI_eq, upd_n _ _ (by decide)]; exact hs) ?_
    refine r_iconst C (nI 1) dX6_save_53 (by decide) ?_
    refine r_iadd C dX6_save_54 ?_
    refine r_topi (nI_add s9 1) ?_
    refine r_bipush C (nI 6) dX6_save_55 (by decide) ?_
    refine r_mmin C (Nat.le_of_ble_eq_true rfl) ml_X6_33 st_mmin in_J9 co_mmin (Nat.le_of_ble_eq_true rfl) (Nat.le_of_ble_eq_true rfl) dX6_save_57 ?_
    refine r_topi (w := nI (mn6 s9)) (mn6_m hs6) ?_
    refine r_put C (M2 := (mI (mI Mu1 122 (nx6 lt) pm) 120 3 (nI (mn6 s9)))) (Cn := RX6) (T := TX6) (N := 4) (id := 120) (by decide) inw_X6 tyX6_ok nmX6 rfl rfl 3 (by decide) rfl fl_X6_25 rfl rfl (rfl) (Nat.le_of_ble_eq_true rfl) (fun j hj => ⟨mI_ne _ hj, rfl⟩) rfl dX6_save_60 ?_
    exact E 0 _ _ _ (Nat.le_of_ble_eq_true rfl) dX6_save_63 (sv_e hlt6 hn8 qu1 rfl)
  ·
    refine r_aload_n C dX6_save_12 rfl 0 rfl ?_
    refine r_get C (Cn := RX6) (T := TX6) (N := 4) (id := 120) (by decide) inw_X6 rfl rfl 2 (by decide) rfl fl_X6_21 rfl dX6_save_13 ?_
    refine r_topi (w := nI lt) hlt ?_
    refine r_iconst C (nI 1) dX6_save_16 (by decide) ?_
    refine r_iadd C dX6_save_17 ?_
    refine r_topi (nI_add lt 1) ?_
    refine r_goto C 22 dX6_save_18 (by decide) ?_
    refine r_topi (w := nI (nx6 lt)) (congrArg nI (show _ = nx6 lt by unfold nx6; split <;> omega)) ?_
    have hl6 := nx6_lt hlt6
    refine r_put C (M2 := (mI M 120 2 (nI (nx6 lt)))) (Cn := RX6) (T := TX6) (N := 4) (id := 120) (by decide) inw_X6 tyX6_ok nmX6 rfl rfl 2 (by decide) rfl fl_X6_21 rfl rfl (rfl) (Nat.le_of_ble_eq_true rfl) (fun j hj => ⟨mI_ne _ hj, rfl⟩) rfl dX6_save_22 ?_
    refine r_aload_n C dX6_save_25 rfl 0 rfl ?_
    refine r_get C (Cn := RX6) (T := TX6) (N := 4) (id := 120) (by decide) inw_X6 rfl rfl 0 (by decide) rfl fl_X6_11 rfl dX6_save_26 ?_
    refine r_aload_n C dX6_save_29 rfl 0 rfl ?_
    refine r_get C (Cn := RX6) (T := TX6) (N := 4) (id := 120) (by decide) inw_X6 rfl rfl 2 (by decide) rfl fl_X6_21 rfl dX6_save_30 ?_
    refine r_topi (w := nI (nx6 lt)) (by rw [mI_eq, upd_e]) ?_
    refine r_aald C (id := 121) (n := 6) (a := nx6 lt) (id2 := (gO (3 + nx6 lt))) (t0 := 5) (by decide) rfl rfl rfl (by omega) (by decide) (if_pos (by omega)) dX6_save_33 ?_
    refine r_aload_n C dX6_save_34 rfl 1 rfl ?_
    refine r_callV_v (nA := 1) C (Nat.le_of_ble_eq_true rfl) [.ref (ad (gO 0))] (c_X4_copyFrom l D cs ad (mI M 120 2 (nI (nx6 lt)))  (3 + nx6 lt) 0 (by omega) (by decide) (by omega) z n d (gv_k hg hn8 (fun i hi => by rw [mI_ne _ (by simp only [gH] at hi; omega)])) hn8) (tt_V ml_X6_29 im_X4_copyFrom se_X4_copyFrom in_X4 co_X4_copyFrom) ⟨rfl, rfl⟩ ⟨rfl, by decide, by decide, by decide⟩ ⟨Nat.le_of_ble_eq_true rfl, Nat.le_of_ble_eq_true rfl⟩ (by simp only [gO, gN, gW, gL, gR, gH] <;> omega) (wF_O cs ad (by omega) _ _) rfl rfl rfl rfl (Nat.le_of_ble_eq_true rfl) dX6_save_35 (fun Mu2 qu2 => ?_)
    refine r_aload_n C dX6_save_38 rfl 0 rfl ?_
    refine r_get C (Cn := RX6) (T := TX6) (N := 4) (id := 120) (by decide) inw_X6 rfl rfl 1 (by decide) rfl fl_X6_17 rfl dX6_save_39 ?_
    refine r_aload_n C dX6_save_42 rfl 0 rfl ?_
    refine r_get C (Cn := RX6) (T := TX6) (N := 4) (id := 120) (by decide) inw_X6 rfl rfl 2 (by decide) rfl fl_X6_21 rfl dX6_save_43 ?_
    refine r_topi (w := nI (nx6 lt)) (by rw [qu2.1.1 120 (by omega), mI_eq, upd_e]) ?_
    refine r_iload_n C dX6_save_46 rfl 2 rfl ?_
    refine r_iast C (id := 122) (n := 6) (a := nx6 lt) (by decide) (fun _ => rfl) (by omega) (by decide) dX6_save_47 ?_
    refine r_aload_n C dX6_save_48 rfl 0 rfl ?_
    refine r_aload_n C dX6_save_49 rfl 0 rfl ?_
    refine r_get C (Cn := RX6) (T := TX6) (N := 4) (id := 120) (by decide) inw_X6 rfl rfl 3 (by decide) rfl fl_X6_25 rfl dX6_save_50 ?_
    refine r_topi (w := (Mu2.1 120 3)) (by rw [mI_ne _ (show 120 ≠ 122 from (by decide))]) ?_
    refine r_topi (w := nI s9) (by rw [qu2.1.1 120 (by omega), mI_eq, upd_n _ _ (by decide)]; exact hs) ?_
    refine r_iconst C (nI 1) dX6_save_53 (by decide) ?_
    refine r_iadd C dX6_save_54 ?_
    refine r_topi (nI_add s9 1) ?_
    refine r_bipush C (nI 6) dX6_save_55 (by decide) ?_
    refine r_mmin C (Nat.le_of_ble_eq_true rfl) ml_X6_33 st_mmin in_J9 co_mmin (Nat.le_of_ble_eq_true rfl) (Nat.le_of_ble_eq_true rfl) dX6_save_57 ?_
    refine r_topi (w := nI (mn6 s9)) (mn6_m hs6) ?_
    refine r_put C (M2 := (mI (mI Mu2 122 (nx6 lt) pm) 120 3 (nI (mn6 s9)))) (Cn := RX6) (T := TX6) (N := 4) (id := 120) (by decide) inw_X6 tyX6_ok nmX6 rfl rfl 3 (by decide) rfl fl_X6_25 rfl rfl (rfl) (Nat.le_of_ble_eq_true rfl) (fun j hj => ⟨mI_ne _ hj, rfl⟩) rfl dX6_save_60 ?_
    exact E 0 _ _ _ (Nat.le_of_ble_eq_true rfl) dX6_save_63 (sv_e hlt6 hn8 qu2 rfl)
