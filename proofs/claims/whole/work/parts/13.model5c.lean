set_option maxRecDepth 100000 in
set_option maxHeartbeats 4000000 in
theorem c_X8_multiply (l : Launch) (D : va_G) (cs : Nat → ClassId) (ad : Nat → Nat) (M : Mm) (n : Nat) (hn : M.1 136 0 = nI n) (hn8 : n ≤ 8) (d : Nat) (hd : M.1 136 1 = nI d) (hd4 : d ≤ 4) (q n2 d2 : Nat) (hq : q ≤ 1) (hn2 : M.1 138 (55 * q) = nI n2) (hd2 : M.1 138 (55 * q + 1) = nI d2) (hn28 : n2 ≤ 8) (hd24 : d2 ≤ 4) (N dd : Nat) (hN : n * n2 = N) (hdd : d * d2 = dd) (h8 : N ≤ 8) (h4 : dd ≤ 4) (hn1 : 1 ≤ n) (hn21 : 1 ≤ n2) (hd1 : 1 ≤ d) (hd21 : 1 ≤ d2) (ht : M.1 139 q = nI 1) (s : Nat) (hs : M.1 135 1 = nI s) (hs6 : s ≤ 6) (hl0 : lpr (M.1 136) (fun p => M.1 138 (55 * q + p)) N dd n2 d2 = nI 0) : ∀ sz : Nat, Met l yX8_multiply (.code yX8_multiply cX8_multiply 3 (some .int) :: TT) { frames := 3, cells := 0, slots := 0, locals := 71 } (va_Pc [.ref (ad 135), .int (nI q)] (fun U9 => U9.heap.size = sz ∧ wB D cs ad (fA ad sz) M U9)) (va_Qi (fun r M2 => r = nI N ∧ M2 = mI (mA (saveM (mI (mA (mI M 135 7 (nI 0)) 142 (mdR (M.1 142) (M.1 136) (fun p => M.1 138 (55 * q + p)) N dd n2 d2)) 135 7 (nI 0)) s) 136 (ovR (M.1 136) (mdR (M.1 142) (M.1 136) (fun p => M.1 138 (55 * q + p)) N dd n2 d2) 0 54)) 136 54 (M.1 136 54 + nI 1)) (wB D cs ad (fA ad sz)) (fA ad sz)) 0 0 (fA ad sz) := by
  refine st_I (by decide) (Nat.le_of_ble_eq_true rfl) (fun κ C E => ?_)
  refine r_lv (lv2 := [(0, .ref (ad 135)), (1, .int (nI q))]) [0, 1] rfl ?_
  refine r_aload_n C dX8_multiply_0 rfl 0 rfl ?_
  refine r_aload_n C dX8_multiply_1 rfl 0 rfl ?_
  refine r_iload_n C dX8_multiply_2 rfl 1 rfl ?_
  refine r_pcallV_i (nA := 1) C (Nat.le_of_ble_eq_true rfl) [.int (nI q)] (c_X8_refusedT l D cs ad M q (by omega) ht) (tt_V ml_X8_138 im_X8_refusedSnapshot se_X8_refusedSnapshot in_X8 co_X8_refusedSnapshot) ⟨rfl, rfl⟩ ⟨rfl, by decide, by decide, by decide⟩ ⟨Nat.le_of_ble_eq_true rfl, Nat.le_of_ble_eq_true rfl⟩ (by decide) rfl rfl rfl rfl rfl (Nat.le_of_ble_eq_true rfl) dX8_multiply_3 ?_
  refine r_put C (M2 := (mI M 135 7 (nI 0))) (Cn := RX8) (T := TX8) (N := 18) (id := 135) (by decide) inw_X8 tyX8_ok nmX8 rfl rfl 7 (by decide) rfl fl_X8_41 rfl rfl (rfl) (Nat.le_of_ble_eq_true rfl) (fun j hj => ⟨mI_ne _ hj, rfl⟩) rfl dX8_multiply_6 ?_
  refine r_aload_n C dX8_multiply_9 rfl 0 rfl ?_
  refine r_get C (Cn := RX8) (T := TX8) (N := 18) (id := 135) (by decide) inw_X8 rfl rfl 7 (by decide) rfl fl_X8_41 rfl dX8_multiply_10 ?_
  refine r_topi (w := nI 0) (rfl) ?_
  refine r_if_ne C 33 dX8_multiply_13 (by decide) (fun h13 => ?_) (fun h13 => ?_)
  · exact absurd rfl h13
  ·
    refine r_aload_n C dX8_multiply_16 rfl 0 rfl ?_
    refine r_aload_n C dX8_multiply_17 rfl 0 rfl ?_
    refine r_iload_n C dX8_multiply_18 rfl 1 rfl ?_
    refine r_pcallV_i (nA := 1) C (Nat.le_of_ble_eq_true rfl) [.int (nI q)] (c_X8_layProduct3 l D cs ad (mI M 135 7 (nI 0))  n hn hn8 d hd hd4 q n2 d2 hq hn2 hd2 hn28 hd24 N dd hN hdd h8 h4 hn1 hn21 hd1 hd21) (tt_V ml_X8_141 im_X8_layProduct se_X8_layProduct in_X8 co_X8_layProduct) ⟨rfl, rfl⟩ ⟨rfl, by decide, by decide, by decide⟩ ⟨Nat.le_of_ble_eq_true rfl, Nat.le_of_ble_eq_true rfl⟩ (by decide) rfl rfl rfl rfl rfl (Nat.le_of_ble_eq_true rfl) dX8_multiply_19 ?_
    refine r_topi (w := (lpr (M.1 136) (fun p => M.1 138 (55 * q + p)) N dd n2 d2)) rfl ?_
    refine r_topi (w := nI 0) (hl0) ?_
    refine r_if_ne C 29 dX8_multiply_22 (by decide) (fun h22 => ?_) (fun h22 => ?_)
    · exact absurd rfl h22
    ·
      refine r_iconst C (nI 0) dX8_multiply_25 (by decide) ?_
      refine r_goto C 30 dX8_multiply_26 (by decide) ?_
      refine r_put C (M2 := (mI (mA (mI M 135 7 (nI 0)) 142 (mdR (M.1 142) (M.1 136) (fun p => M.1 138 (55 * q + p)) N dd n2 d2)) 135 7 (nI 0))) (Cn := RX8) (T := TX8) (N := 18) (id := 135) (by decide) inw_X8 tyX8_ok nmX8 rfl rfl 7 (by decide) rfl fl_X8_41 rfl rfl (rfl) (Nat.le_of_ble_eq_true rfl) (fun j hj => ⟨mI_ne _ hj, rfl⟩) rfl dX8_multiply_30 ?_
      refine r_aload_n C dX8_multiply_33 rfl 0 rfl ?_
      refine r_get C (Cn := RX8) (T := TX8) (N := 18) (id := 135) (by decide) inw_X8 rfl rfl 7 (by decide) rfl fl_X8_41 rfl dX8_multiply_34 ?_
      refine r_topi (w := nI 0) (rfl) ?_
      refine r_if_le C 42 dX8_multiply_37 (by decide) (fun h37 => ?_) (fun h37 => ?_)
      ·
        refine r_aload_n C dX8_multiply_42 rfl 0 rfl ?_
        refine r_pcallV_v (nA := 0) C (Nat.le_of_ble_eq_true rfl) [] (c_X8_save l D cs ad (mI (mA (mI M 135 7 (nI 0)) 142 (mdR (M.1 142) (M.1 136) (fun p => M.1 138 (55 * q + p)) N dd n2 d2)) 135 7 (nI 0))  s hs hs6) (tt_V ml_X8_110 im_X8_save se_X8_save in_X8 co_X8_save) ⟨rfl, rfl⟩ ⟨rfl, by decide, by decide, by decide⟩ ⟨Nat.le_of_ble_eq_true rfl, Nat.le_of_ble_eq_true rfl⟩ (by decide) rfl rfl rfl rfl rfl (Nat.le_of_ble_eq_true rfl) dX8_multiply_43 ?_
        refine r_iconst C (nI 0) dX8_multiply_46 (by decide) ?_
        refine r_istore_n C [(2, .int (nI 0)), (0, .ref (ad 135)), (1, .int (nI q))] dX8_multiply_47 rfl (by decide) rfl ?_
        have Lp : ∀ (f k : Nat), 54 + 1 ≤ k + f → k ≤ 54 → VV l D cs ad 3 κ 0 (mA (saveM (mI (mA (mI M 135 7 (nI 0)) 142 (mdR (M.1 142) (M.1 136) (fun p => M.1 138 (55 * q + p)) N dd n2 d2)) 135 7 (nI 0)) s) 136 (ovR (M.1 136) (mdR (M.1 142) (M.1 136) (fun p => M.1 138 (55 * q + p)) N dd n2 d2) 0 k)) 48 [(2, .int (nI k)), (0, .ref (ad 135)), (1, .int (nI q))] [] := by
          intro f
          induction f with
          | zero => intro k hk1 hk2; exact absurd hk1 (by omega)
          | succ f ih =>
            intro k hk1 hk2
            refine r_iload_n C dX8_multiply_48 rfl 0 rfl ?_
            refine r_bipush C (nI 54) dX8_multiply_49 (by decide) ?_
            refine r_icmpN_ge C 72 dX8_multiply_51 (by decide) (by omega) (by omega) (fun h51 => ?_) (fun h51 => ?_)
            ·
              have hk9 : 54 = k := by omega
              subst hk9
              refine r_aload_n C dX8_multiply_72 rfl 1 rfl ?_
              refine r_get C (Cn := RX8) (T := TX8) (N := 18) (id := 135) (by decide) inw_X8 rfl rfl 0 (by decide) rfl fl_X8_7 rfl dX8_multiply_73 ?_
              refine r_bipush C (nI 54) dX8_multiply_76 (by decide) ?_
              refine r_dup2_11 C dX8_multiply_78 rfl rfl ?_
              refine r_iald C (id := 136) (n := 55) (a := 54) (by decide) rfl (by decide) (by decide) dX8_multiply_79 ?_
              refine r_topi (w := (M.1 136 54)) (rfl) ?_
              refine r_iconst C (nI 1) dX8_multiply_80 (by decide) ?_
              refine r_iadd C dX8_multiply_81 ?_
              refine r_iast C (id := 136) (n := 55) (a := 54) (by decide) (fun _ => rfl) (by decide) (by decide) dX8_multiply_82 ?_
              refine r_aload_n C dX8_multiply_83 rfl 1 rfl ?_
              refine r_get C (Cn := RX8) (T := TX8) (N := 18) (id := 135) (by decide) inw_X8 rfl rfl 0 (by decide) rfl fl_X8_7 rfl dX8_multiply_84 ?_
              refine r_iconst C (nI 0) dX8_multiply_87 (by decide) ?_
              refine r_iald C (id := 136) (n := 55) (a := 0) (by decide) rfl (by decide) (by decide) dX8_multiply_88 ?_
              refine r_topi (w := nI N) (rfl) ?_
              exact E 0 _ _ _ _ (Nat.le_of_ble_eq_true rfl) dX8_multiply_89 (⟨rfl, rfl⟩)
            ·
              refine r_aload_n C dX8_multiply_54 rfl 1 rfl ?_
              refine r_get C (Cn := RX8) (T := TX8) (N := 18) (id := 135) (by decide) inw_X8 rfl rfl 0 (by decide) rfl fl_X8_7 rfl dX8_multiply_55 ?_
              refine r_iload_n C dX8_multiply_58 rfl 0 rfl ?_
              refine r_aload_n C dX8_multiply_59 rfl 1 rfl ?_
              refine r_get C (Cn := RX8) (T := TX8) (N := 18) (id := 135) (by decide) inw_X8 rfl rfl 12 (by decide) rfl fl_X8_28 rfl dX8_multiply_60 ?_
              refine r_iload_n C dX8_multiply_63 rfl 0 rfl ?_
              refine r_iald C (id := 142) (n := 55) (a := k) (by decide) rfl (by omega) (by decide) dX8_multiply_64 ?_
              refine r_topi (w := ((mdR (M.1 142) (M.1 136) (fun p => M.1 138 (55 * q + p)) N dd n2 d2) (0 + k))) (by show (mdR (M.1 142) (M.1 136) (fun p => M.1 138 (55 * q + p)) N dd n2 d2) k = (mdR (M.1 142) (M.1 136) (fun p => M.1 138 (55 * q + p)) N dd n2 d2) (0 + k); rw [Nat.zero_add]) ?_
              refine r_iast C (id := 136) (n := 55) (a := k) (by decide) (fun _ => rfl) (by omega) (by decide) dX8_multiply_65 ?_
              refine r_iinc C (nI (k + 1)) [(2, .int (nI (k + 1))), (0, .ref (ad 135)), (1, .int (nI q))] dX8_multiply_66 (j := 0) rfl (inc_n k 1) (by decide) rfl ?_
              refine r_goto C 48 dX8_multiply_69 (by decide) ?_
              refine r_lv (lv2 := [(2, .int (nI (k + 1))), (0, .ref (ad 135)), (1, .int (nI q))]) [0, 1, 2] rfl ?_
              refine r_mem (M2 := (mA (saveM (mI (mA (mI M 135 7 (nI 0)) 142 (mdR (M.1 142) (M.1 136) (fun p => M.1 138 (55 * q + p)) N dd n2 d2)) 135 7 (nI 0)) s) 136 (ovR (M.1 136) (mdR (M.1 142) (M.1 136) (fun p => M.1 138 (55 * q + p)) N dd n2 d2) 0 (k + 1)))) (by rw [mIA]; exact congrArg _ (ovR_s _ _ _ _)) ?_
              exact ih (k + 1) (by omega) (by omega)
        refine r_lv (lv2 := [(2, .int (nI 0)), (0, .ref (ad 135)), (1, .int (nI q))]) [0, 1, 2] rfl ?_
        refine r_mem (M2 := (mA (saveM (mI (mA (mI M 135 7 (nI 0)) 142 (mdR (M.1 142) (M.1 136) (fun p => M.1 138 (55 * q + p)) N dd n2 d2)) 135 7 (nI 0)) s) 136 (ovR (M.1 136) (mdR (M.1 142) (M.1 136) (fun p => M.1 138 (55 * q + p)) N dd n2 d2) 0 0))) (mA_id (ovR_0 _ _ _)) ?_
        exact Lp (54 + 1) 0 (by omega) (by omega)
      · exact absurd h37 (by decide)
set_option maxRecDepth 100000 in
set_option maxHeartbeats 4000000 in
theorem c_X8_multiplyN1 (l : Launch) (D : va_G) (cs : Nat → ClassId) (ad : Nat → Nat) (M : Mm) (n : Nat) (hn : M.1 136 0 = nI n) (hn8 : n ≤ 8) (d : Nat) (hd : M.1 136 1 = nI d) (hd4 : d ≤ 4) (q n2 d2 : Nat) (hq : q ≤ 1) (hn2 : M.1 138 (55 * q) = nI n2) (hd2 : M.1 138 (55 * q + 1) = nI d2) (hn28 : n2 ≤ 8) (hd24 : d2 ≤ 4) (N dd : Nat) (hN : n * n2 = N) (hdd : d * d2 = dd) (h8 : 8 < N) (ht : M.1 139 q = nI 1) : ∀ sz : Nat, Met l yX8_multiply (.code yX8_multiply cX8_multiply 3 (some .int) :: TT) { frames := 3, cells := 0, slots := 0, locals := 63 } (va_Pc [.ref (ad 135), .int (nI q)] (fun U9 => U9.heap.size = sz ∧ wB D cs ad (fA ad sz) M U9)) (va_Qi (fun r M2 => r = nI 0 ∧ M2 = (mI (mI M 135 7 (nI 0)) 135 7 (nI 2))) (wB D cs ad (fA ad sz)) (fA ad sz)) 0 0 (fA ad sz) := by
  refine st_I (by decide) (Nat.le_of_ble_eq_true rfl) (fun κ C E => ?_)
  refine r_lv (lv2 := [(0, .ref (ad 135)), (1, .int (nI q))]) [0, 1] rfl ?_
  refine r_aload_n C dX8_multiply_0 rfl 0 rfl ?_
  refine r_aload_n C dX8_multiply_1 rfl 0 rfl ?_
  refine r_iload_n C dX8_multiply_2 rfl 1 rfl ?_
  refine r_pcallV_i (nA := 1) C (Nat.le_of_ble_eq_true rfl) [.int (nI q)] (c_X8_refusedT l D cs ad M q (by omega) ht) (tt_V ml_X8_138 im_X8_refusedSnapshot se_X8_refusedSnapshot in_X8 co_X8_refusedSnapshot) ⟨rfl, rfl⟩ ⟨rfl, by decide, by decide, by decide⟩ ⟨Nat.le_of_ble_eq_true rfl, Nat.le_of_ble_eq_true rfl⟩ (by decide) rfl rfl rfl rfl rfl (Nat.le_of_ble_eq_true rfl) dX8_multiply_3 ?_
  refine r_put C (M2 := (mI M 135 7 (nI 0))) (Cn := RX8) (T := TX8) (N := 18) (id := 135) (by decide) inw_X8 tyX8_ok nmX8 rfl rfl 7 (by decide) rfl fl_X8_41 rfl rfl (rfl) (Nat.le_of_ble_eq_true rfl) (fun j hj => ⟨mI_ne _ hj, rfl⟩) rfl dX8_multiply_6 ?_
  refine r_aload_n C dX8_multiply_9 rfl 0 rfl ?_
  refine r_get C (Cn := RX8) (T := TX8) (N := 18) (id := 135) (by decide) inw_X8 rfl rfl 7 (by decide) rfl fl_X8_41 rfl dX8_multiply_10 ?_
  refine r_topi (w := nI 0) (rfl) ?_
  refine r_if_ne C 33 dX8_multiply_13 (by decide) (fun h13 => ?_) (fun h13 => ?_)
  · exact absurd rfl h13
  ·
    refine r_aload_n C dX8_multiply_16 rfl 0 rfl ?_
    refine r_aload_n C dX8_multiply_17 rfl 0 rfl ?_
    refine r_iload_n C dX8_multiply_18 rfl 1 rfl ?_
    refine r_pcallV_i (nA := 1) C (Nat.le_of_ble_eq_true rfl) [.int (nI q)] (c_X8_layProduct1 l D cs ad (mI M 135 7 (nI 0))  n hn hn8 d hd hd4 q n2 d2 hq hn2 hd2 hn28 hd24 N dd hN hdd h8) (tt_V ml_X8_141 im_X8_layProduct se_X8_layProduct in_X8 co_X8_layProduct) ⟨rfl, rfl⟩ ⟨rfl, by decide, by decide, by decide⟩ ⟨Nat.le_of_ble_eq_true rfl, Nat.le_of_ble_eq_true rfl⟩ (by decide) rfl rfl rfl rfl rfl (Nat.le_of_ble_eq_true rfl) dX8_multiply_19 ?_
    refine r_topi (w := nI 1) rfl ?_
    refine r_if_ne C 29 dX8_multiply_22 (by decide) (fun h22 => ?_) (fun h22 => ?_)
    ·
      refine r_iconst C (nI 2) dX8_multiply_29 (by decide) ?_
      refine r_put C (M2 := (mI (mI M 135 7 (nI 0)) 135 7 (nI 2))) (Cn := RX8) (T := TX8) (N := 18) (id := 135) (by decide) inw_X8 tyX8_ok nmX8 rfl rfl 7 (by decide) rfl fl_X8_41 rfl rfl (rfl) (Nat.le_of_ble_eq_true rfl) (fun j hj => ⟨mI_ne _ hj, rfl⟩) rfl dX8_multiply_30 ?_
      refine r_aload_n C dX8_multiply_33 rfl 0 rfl ?_
      refine r_get C (Cn := RX8) (T := TX8) (N := 18) (id := 135) (by decide) inw_X8 rfl rfl 7 (by decide) rfl fl_X8_41 rfl dX8_multiply_34 ?_
      refine r_topi (w := nI 2) (rfl) ?_
      refine r_if_le C 42 dX8_multiply_37 (by decide) (fun h37 => ?_) (fun h37 => ?_)
      · exact absurd h37 (by decide)
      ·
        refine r_iconst C (nI 0) dX8_multiply_40 (by decide) ?_
        exact E 0 _ _ _ _ (Nat.le_of_ble_eq_true rfl) dX8_multiply_41 (⟨rfl, rfl⟩)
    · exact absurd h22 (by decide)
set_option maxRecDepth 100000 in
set_option maxHeartbeats 4000000 in
theorem c_X8_multiplyN2 (l : Launch) (D : va_G) (cs : Nat → ClassId) (ad : Nat → Nat) (M : Mm) (n : Nat) (hn : M.1 136 0 = nI n) (hn8 : n ≤ 8) (d : Nat) (hd : M.1 136 1 = nI d) (hd4 : d ≤ 4) (q n2 d2 : Nat) (hq : q ≤ 1) (hn2 : M.1 138 (55 * q) = nI n2) (hd2 : M.1 138 (55 * q + 1) = nI d2) (hn28 : n2 ≤ 8) (hd24 : d2 ≤ 4) (N dd : Nat) (hN : n * n2 = N) (hdd : d * d2 = dd) (h8 : N ≤ 8) (h4 : 4 < dd) (ht : M.1 139 q = nI 1) : ∀ sz : Nat, Met l yX8_multiply (.code yX8_multiply cX8_multiply 3 (some .int) :: TT) { frames := 3, cells := 0, slots := 0, locals := 63 } (va_Pc [.ref (ad 135), .int (nI q)] (fun U9 => U9.heap.size = sz ∧ wB D cs ad (fA ad sz) M U9)) (va_Qi (fun r M2 => r = nI 0 ∧ M2 = (mI (mI M 135 7 (nI 0)) 135 7 (nI 2))) (wB D cs ad (fA ad sz)) (fA ad sz)) 0 0 (fA ad sz) := by
  refine st_I (by decide) (Nat.le_of_ble_eq_true rfl) (fun κ C E => ?_)
  refine r_lv (lv2 := [(0, .ref (ad 135)), (1, .int (nI q))]) [0, 1] rfl ?_
  refine r_aload_n C dX8_multiply_0 rfl 0 rfl ?_
  refine r_aload_n C dX8_multiply_1 rfl 0 rfl ?_
  refine r_iload_n C dX8_multiply_2 rfl 1 rfl ?_
  refine r_pcallV_i (nA := 1) C (Nat.le_of_ble_eq_true rfl) [.int (nI q)] (c_X8_refusedT l D cs ad M q (by omega) ht) (tt_V ml_X8_138 im_X8_refusedSnapshot se_X8_refusedSnapshot in_X8 co_X8_refusedSnapshot) ⟨rfl, rfl⟩ ⟨rfl, by decide, by decide, by decide⟩ ⟨Nat.le_of_ble_eq_true rfl, Nat.le_of_ble_eq_true rfl⟩ (by decide) rfl rfl rfl rfl rfl (Nat.le_of_ble_eq_true rfl) dX8_multiply_3 ?_
  refine r_put C (M2 := (mI M 135 7 (nI 0))) (Cn := RX8) (T := TX8) (N := 18) (id := 135) (by decide) inw_X8 tyX8_ok nmX8 rfl rfl 7 (by decide) rfl fl_X8_41 rfl rfl (rfl) (Nat.le_of_ble_eq_true rfl) (fun j hj => ⟨mI_ne _ hj, rfl⟩) rfl dX8_multiply_6 ?_
  refine r_aload_n C dX8_multiply_9 rfl 0 rfl ?_
  refine r_get C (Cn := RX8) (T := TX8) (N := 18) (id := 135) (by decide) inw_X8 rfl rfl 7 (by decide) rfl fl_X8_41 rfl dX8_multiply_10 ?_
  refine r_topi (w := nI 0) (rfl) ?_
  refine r_if_ne C 33 dX8_multiply_13 (by decide) (fun h13 => ?_) (fun h13 => ?_)
  · exact absurd rfl h13
  ·
    refine r_aload_n C dX8_multiply_16 rfl 0 rfl ?_
    refine r_aload_n C dX8_multiply_17 rfl 0 rfl ?_
    refine r_iload_n C dX8_multiply_18 rfl 1 rfl ?_
    refine r_pcallV_i (nA := 1) C (Nat.le_of_ble_eq_true rfl) [.int (nI q)] (c_X8_layProduct2 l D cs ad (mI M 135 7 (nI 0))  n hn hn8 d hd hd4 q n2 d2 hq hn2 hd2 hn28 hd24 N dd hN hdd h8 h4) (tt_V ml_X8_141 im_X8_layProduct se_X8_layProduct in_X8 co_X8_layProduct) ⟨rfl, rfl⟩ ⟨rfl, by decide, by decide, by decide⟩ ⟨Nat.le_of_ble_eq_true rfl, Nat.le_of_ble_eq_true rfl⟩ (by decide) rfl rfl rfl rfl rfl (Nat.le_of_ble_eq_true rfl) dX8_multiply_19 ?_
    refine r_topi (w := nI 2) rfl ?_
    refine r_if_ne C 29 dX8_multiply_22 (by decide) (fun h22 => ?_) (fun h22 => ?_)
    ·
      refine r_iconst C (nI 2) dX8_multiply_29 (by decide) ?_
      refine r_put C (M2 := (mI (mI M 135 7 (nI 0)) 135 7 (nI 2))) (Cn := RX8) (T := TX8) (N := 18) (id := 135) (by decide) inw_X8 tyX8_ok nmX8 rfl rfl 7 (by decide) rfl fl_X8_41 rfl rfl (rfl) (Nat.le_of_ble_eq_true rfl) (fun j hj => ⟨mI_ne _ hj, rfl⟩) rfl dX8_multiply_30 ?_
      refine r_aload_n C dX8_multiply_33 rfl 0 rfl ?_
      refine r_get C (Cn := RX8) (T := TX8) (N := 18) (id := 135) (by decide) inw_X8 rfl rfl 7 (by decide) rfl fl_X8_41 rfl dX8_multiply_34 ?_
      refine r_topi (w := nI 2) (rfl) ?_
      refine r_if_le C 42 dX8_multiply_37 (by decide) (fun h37 => ?_) (fun h37 => ?_)
      · exact absurd h37 (by decide)
      ·
        refine r_iconst C (nI 0) dX8_multiply_40 (by decide) ?_
        exact E 0 _ _ _ _ (Nat.le_of_ble_eq_true rfl) dX8_multiply_41 (⟨rfl, rfl⟩)
    · exact absurd h22 (by decide)
set_option maxRecDepth 100000 in
set_option maxHeartbeats 4000000 in
theorem c_X8_multiplyN3 (l : Launch) (D : va_G) (cs : Nat → ClassId) (ad : Nat → Nat) (M : Mm) (n : Nat) (hn : M.1 136 0 = nI n) (hn8 : n ≤ 8) (d : Nat) (hd : M.1 136 1 = nI d) (hd4 : d ≤ 4) (q n2 d2 : Nat) (hq : q ≤ 1) (hn2 : M.1 138 (55 * q) = nI n2) (hd2 : M.1 138 (55 * q + 1) = nI d2) (hn28 : n2 ≤ 8) (hd24 : d2 ≤ 4) (N dd : Nat) (hN : n * n2 = N) (hdd : d * d2 = dd) (h8 : N ≤ 8) (h4 : dd ≤ 4) (hn1 : 1 ≤ n) (hn21 : 1 ≤ n2) (hd1 : 1 ≤ d) (hd21 : 1 ≤ d2) (hl0 : ¬ lpr (M.1 136) (fun p => M.1 138 (55 * q + p)) N dd n2 d2 = nI 0) (ht : M.1 139 q = nI 1) : ∀ sz : Nat, Met l yX8_multiply (.code yX8_multiply cX8_multiply 3 (some .int) :: TT) { frames := 3, cells := 0, slots := 0, locals := 71 } (va_Pc [.ref (ad 135), .int (nI q)] (fun U9 => U9.heap.size = sz ∧ wB D cs ad (fA ad sz) M U9)) (va_Qi (fun r M2 => r = nI 0 ∧ M2 = (mI (mA (mI M 135 7 (nI 0)) 142 (mdR (M.1 142) (M.1 136) (fun p => M.1 138 (55 * q + p)) N dd n2 d2)) 135 7 (nI 2))) (wB D cs ad (fA ad sz)) (fA ad sz)) 0 0 (fA ad sz) := by
  refine st_I (by decide) (Nat.le_of_ble_eq_true rfl) (fun κ C E => ?_)
  refine r_lv (lv2 := [(0, .ref (ad 135)), (1, .int (nI q))]) [0, 1] rfl ?_
  refine r_aload_n C dX8_multiply_0 rfl 0 rfl ?_
  refine r_aload_n C dX8_multiply_1 rfl 0 rfl ?_
  refine r_iload_n C dX8_multiply_2 rfl 1 rfl ?_
  refine r_pcallV_i (nA := 1) C (Nat.le_of_ble_eq_true rfl) [.int (nI q)] (c_X8_refusedT l D cs ad M q (by omega) ht) (tt_V ml_X8_138 im_X8_refusedSnapshot se_X8_refusedSnapshot in_X8 co_X8_refusedSnapshot) ⟨rfl, rfl⟩ ⟨rfl, by decide, by decide, by decide⟩ ⟨Nat.le_of_ble_eq_true rfl, Nat.le_of_ble_eq_true rfl⟩ (by decide) rfl rfl rfl rfl rfl (Nat.le_of_ble_eq_true rfl) dX8_multiply_3 ?_
  refine r_put C (M2 := (mI M 135 7 (nI 0))) (Cn := RX8) (T := TX8) (N := 18) (id := 135) (by decide) inw_X8 tyX8_ok nmX8 rfl rfl 7 (by decide) rfl fl_X8_41 rfl rfl (rfl) (Nat.le_of_ble_eq_true rfl) (fun j hj => ⟨mI_ne _ hj, rfl⟩) rfl dX8_multiply_6 ?_
  refine r_aload_n C dX8_multiply_9 rfl 0 rfl ?_
  refine r_get C (Cn := RX8) (T := TX8) (N := 18) (id := 135) (by decide) inw_X8 rfl rfl 7 (by decide) rfl fl_X8_41 rfl dX8_multiply_10 ?_
  refine r_topi (w := nI 0) (rfl) ?_
  refine r_if_ne C 33 dX8_multiply_13 (by decide) (fun h13 => ?_) (fun h13 => ?_)
  · exact absurd rfl h13
  ·
    refine r_aload_n C dX8_multiply_16 rfl 0 rfl ?_
    refine r_aload_n C dX8_multiply_17 rfl 0 rfl ?_
    refine r_iload_n C dX8_multiply_18 rfl 1 rfl ?_
    refine r_pcallV_i (nA := 1) C (Nat.le_of_ble_eq_true rfl) [.int (nI q)] (c_X8_layProduct3 l D cs ad (mI M 135 7 (nI 0))  n hn hn8 d hd hd4 q n2 d2 hq hn2 hd2 hn28 hd24 N dd hN hdd h8 h4 hn1 hn21 hd1 hd21) (tt_V ml_X8_141 im_X8_layProduct se_X8_layProduct in_X8 co_X8_layProduct) ⟨rfl, rfl⟩ ⟨rfl, by decide, by decide, by decide⟩ ⟨Nat.le_of_ble_eq_true rfl, Nat.le_of_ble_eq_true rfl⟩ (by decide) rfl rfl rfl rfl rfl (Nat.le_of_ble_eq_true rfl) dX8_multiply_19 ?_
    refine r_topi (w := (lpr (M.1 136) (fun p => M.1 138 (55 * q + p)) N dd n2 d2)) rfl ?_
    refine r_if_ne C 29 dX8_multiply_22 (by decide) (fun h22 => ?_) (fun h22 => ?_)
    ·
      refine r_iconst C (nI 2) dX8_multiply_29 (by decide) ?_
      refine r_put C (M2 := (mI (mA (mI M 135 7 (nI 0)) 142 (mdR (M.1 142) (M.1 136) (fun p => M.1 138 (55 * q + p)) N dd n2 d2)) 135 7 (nI 2))) (Cn := RX8) (T := TX8) (N := 18) (id := 135) (by decide) inw_X8 tyX8_ok nmX8 rfl rfl 7 (by decide) rfl fl_X8_41 rfl rfl (rfl) (Nat.le_of_ble_eq_true rfl) (fun j hj => ⟨mI_ne _ hj, rfl⟩) rfl dX8_multiply_30 ?_
      refine r_aload_n C dX8_multiply_33 rfl 0 rfl ?_
      refine r_get C (Cn := RX8) (T := TX8) (N := 18) (id := 135) (by decide) inw_X8 rfl rfl 7 (by decide) rfl fl_X8_41 rfl dX8_multiply_34 ?_
      refine r_topi (w := nI 2) (rfl) ?_
      refine r_if_le C 42 dX8_multiply_37 (by decide) (fun h37 => ?_) (fun h37 => ?_)
      · exact absurd h37 (by decide)
      ·
        refine r_iconst C (nI 0) dX8_multiply_40 (by decide) ?_
        exact E 0 _ _ _ _ (Nat.le_of_ble_eq_true rfl) dX8_multiply_41 (⟨rfl, rfl⟩)
    · exact absurd h22 hl0
set_option maxRecDepth 100000 in
set_option maxHeartbeats 4000000 in
theorem c_X8_whyNotMultiply1 (l : Launch) (D : va_G) (cs : Nat → ClassId) (ad : Nat → Nat) (M : Mm) (n : Nat) (hn : M.1 136 0 = nI n) (hn8 : n ≤ 8) (d : Nat) (hd : M.1 136 1 = nI d) (hd4 : d ≤ 4) (q n2 d2 : Nat) (hq : q ≤ 1) (hn2 : M.1 138 (55 * q) = nI n2) (hd2 : M.1 138 (55 * q + 1) = nI d2) (hn28 : n2 ≤ 8) (hd24 : d2 ≤ 4) (N dd : Nat) (hN : n * n2 = N) (hdd : d * d2 = dd) (h8 : 8 < N) (ht : M.1 139 q = nI 1) : ∀ sz : Nat, Met l yX8_whyNotMultiply (.code yX8_whyNotMultiply cX8_whyNotMultiply 2 (some .int) :: TT) { frames := 3, cells := 0, slots := 0, locals := 63 } (va_Pc [.ref (ad 135), .int (nI q)] (fun U9 => U9.heap.size = sz ∧ wB D cs ad (fA ad sz) M U9)) (va_Qi (fun r M2 => r = nI 1 ∧ M2 = (mI M 135 7 (nI 0))) (wB D cs ad (fA ad sz)) (fA ad sz)) 0 0 (fA ad sz) := by
  refine st_I (by decide) (Nat.le_of_ble_eq_true rfl) (fun κ C E => ?_)
  refine r_lv (lv2 := [(0, .ref (ad 135)), (1, .int (nI q))]) [0, 1] rfl ?_
  refine r_aload_n C dX8_whyNotMultiply_0 rfl 0 rfl ?_
  refine r_aload_n C dX8_whyNotMultiply_1 rfl 0 rfl ?_
  refine r_iload_n C dX8_whyNotMultiply_2 rfl 1 rfl ?_
  refine r_pcallV_i (nA := 1) C (Nat.le_of_ble_eq_true rfl) [.int (nI q)] (c_X8_refusedT l D cs ad M q (by omega) ht) (tt_V ml_X8_138 im_X8_refusedSnapshot se_X8_refusedSnapshot in_X8 co_X8_refusedSnapshot) ⟨rfl, rfl⟩ ⟨rfl, by decide, by decide, by decide⟩ ⟨Nat.le_of_ble_eq_true rfl, Nat.le_of_ble_eq_true rfl⟩ (by decide) rfl rfl rfl rfl rfl (Nat.le_of_ble_eq_true rfl) dX8_whyNotMultiply_3 ?_
  refine r_put C (M2 := (mI M 135 7 (nI 0))) (Cn := RX8) (T := TX8) (N := 18) (id := 135) (by decide) inw_X8 tyX8_ok nmX8 rfl rfl 7 (by decide) rfl fl_X8_41 rfl rfl (rfl) (Nat.le_of_ble_eq_true rfl) (fun j hj => ⟨mI_ne _ hj, rfl⟩) rfl dX8_whyNotMultiply_6 ?_
  refine r_aload_n C dX8_whyNotMultiply_9 rfl 0 rfl ?_
  refine r_get C (Cn := RX8) (T := TX8) (N := 18) (id := 135) (by decide) inw_X8 rfl rfl 7 (by decide) rfl fl_X8_41 rfl dX8_whyNotMultiply_10 ?_
  refine r_topi (w := nI 0) (rfl) ?_
  refine r_if_le C 20 dX8_whyNotMultiply_13 (by decide) (fun h13 => ?_) (fun h13 => ?_)
  ·
    refine r_aload_n C dX8_whyNotMultiply_20 rfl 0 rfl ?_
    refine r_iload_n C dX8_whyNotMultiply_21 rfl 1 rfl ?_
    refine r_pcallV_i (nA := 1) C (Nat.le_of_ble_eq_true rfl) [.int (nI q)] (c_X8_layProduct1 l D cs ad (mI M 135 7 (nI 0))  n hn hn8 d hd hd4 q n2 d2 hq hn2 hd2 hn28 hd24 N dd hN hdd h8) (tt_V ml_X8_141 im_X8_layProduct se_X8_layProduct in_X8 co_X8_layProduct) ⟨rfl, rfl⟩ ⟨rfl, by decide, by decide, by decide⟩ ⟨Nat.le_of_ble_eq_true rfl, Nat.le_of_ble_eq_true rfl⟩ (by decide) rfl rfl rfl rfl rfl (Nat.le_of_ble_eq_true rfl) dX8_whyNotMultiply_22 ?_
    refine r_topi (w := nI 1) rfl ?_
    exact E 0 _ _ _ _ (Nat.le_of_ble_eq_true rfl) dX8_whyNotMultiply_25 (⟨rfl, rfl⟩)
  · exact absurd h13 (by decide)
set_option maxRecDepth 100000 in
set_option maxHeartbeats 4000000 in
theorem c_X8_whyNotMultiply2 (l : Launch) (D : va_G) (cs : Nat → ClassId) (ad : Nat → Nat) (M : Mm) (n : Nat) (hn : M.1 136 0 = nI n) (hn8 : n ≤ 8) (d : Nat) (hd : M.1 136 1 = nI d) (hd4 : d ≤ 4) (q n2 d2 : Nat) (hq : q ≤ 1) (hn2 : M.1 138 (55 * q) = nI n2) (hd2 : M.1 138 (55 * q + 1) = nI d2) (hn28 : n2 ≤ 8) (hd24 : d2 ≤ 4) (N dd : Nat) (hN : n * n2 = N) (hdd : d * d2 = dd) (h8 : N ≤ 8) (h4 : 4 < dd) (ht : M.1 139 q = nI 1) : ∀ sz : Nat, Met l yX8_whyNotMultiply (.code yX8_whyNotMultiply cX8_whyNotMultiply 2 (some .int) :: TT) { frames := 3, cells := 0, slots := 0, locals := 63 } (va_Pc [.ref (ad 135), .int (nI q)] (fun U9 => U9.heap.size = sz ∧ wB D cs ad (fA ad sz) M U9)) (va_Qi (fun r M2 => r = nI 2 ∧ M2 = (mI M 135 7 (nI 0))) (wB D cs ad (fA ad sz)) (fA ad sz)) 0 0 (fA ad sz) := by
  refine st_I (by decide) (Nat.le_of_ble_eq_true rfl) (fun κ C E => ?_)
  refine r_lv (lv2 := [(0, .ref (ad 135)), (1, .int (nI q))]) [0, 1] rfl ?_
  refine r_aload_n C dX8_whyNotMultiply_0 rfl 0 rfl ?_
  refine r_aload_n C dX8_whyNotMultiply_1 rfl 0 rfl ?_
  refine r_iload_n C dX8_whyNotMultiply_2 rfl 1 rfl ?_
  refine r_pcallV_i (nA := 1) C (Nat.le_of_ble_eq_true rfl) [.int (nI q)] (c_X8_refusedT l D cs ad M q (by omega) ht) (tt_V ml_X8_138 im_X8_refusedSnapshot se_X8_refusedSnapshot in_X8 co_X8_refusedSnapshot) ⟨rfl, rfl⟩ ⟨rfl, by decide, by decide, by decide⟩ ⟨Nat.le_of_ble_eq_true rfl, Nat.le_of_ble_eq_true rfl⟩ (by decide) rfl rfl rfl rfl rfl (Nat.le_of_ble_eq_true rfl) dX8_whyNotMultiply_3 ?_
  refine r_put C (M2 := (mI M 135 7 (nI 0))) (Cn := RX8) (T := TX8) (N := 18) (id := 135) (by decide) inw_X8 tyX8_ok nmX8 rfl rfl 7 (by decide) rfl fl_X8_41 rfl rfl (rfl) (Nat.le_of_ble_eq_true rfl) (fun j hj => ⟨mI_ne _ hj, rfl⟩) rfl dX8_whyNotMultiply_6 ?_
  refine r_aload_n C dX8_whyNotMultiply_9 rfl 0 rfl ?_
  refine r_get C (Cn := RX8) (T := TX8) (N := 18) (id := 135) (by decide) inw_X8 rfl rfl 7 (by decide) rfl fl_X8_41 rfl dX8_whyNotMultiply_10 ?_
  refine r_topi (w := nI 0) (rfl) ?_
  refine r_if_le C 20 dX8_whyNotMultiply_13 (by decide) (fun h13 => ?_) (fun h13 => ?_)
  ·
    refine r_aload_n C dX8_whyNotMultiply_20 rfl 0 rfl ?_
    refine r_iload_n C dX8_whyNotMultiply_21 rfl 1 rfl ?_
    refine r_pcallV_i (nA := 1) C (Nat.le_of_ble_eq_true rfl) [.int (nI q)] (c_X8_layProduct2 l D cs ad (mI M 135 7 (nI 0))  n hn hn8 d hd hd4 q n2 d2 hq hn2 hd2 hn28 hd24 N dd hN hdd h8 h4) (tt_V ml_X8_141 im_X8_layProduct se_X8_layProduct in_X8 co_X8_layProduct) ⟨rfl, rfl⟩ ⟨rfl, by decide, by decide, by decide⟩ ⟨Nat.le_of_ble_eq_true rfl, Nat.le_of_ble_eq_true rfl⟩ (by decide) rfl rfl rfl rfl rfl (Nat.le_of_ble_eq_true rfl) dX8_whyNotMultiply_22 ?_
    refine r_topi (w := nI 2) rfl ?_
    exact E 0 _ _ _ _ (Nat.le_of_ble_eq_true rfl) dX8_whyNotMultiply_25 (⟨rfl, rfl⟩)
  · exact absurd h13 (by decide)
set_option maxRecDepth 100000 in
set_option maxHeartbeats 4000000 in
theorem c_X8_whyNotMultiply3 (l : Launch) (D : va_G) (cs : Nat → ClassId) (ad : Nat → Nat) (M : Mm) (n : Nat) (hn : M.1 136 0 = nI n) (hn8 : n ≤ 8) (d : Nat) (hd : M.1 136 1 = nI d) (hd4 : d ≤ 4) (q n2 d2 : Nat) (hq : q ≤ 1) (hn2 : M.1 138 (55 * q) = nI n2) (hd2 : M.1 138 (55 * q + 1) = nI d2) (hn28 : n2 ≤ 8) (hd24 : d2 ≤ 4) (N dd : Nat) (hN : n * n2 = N) (hdd : d * d2 = dd) (h8 : N ≤ 8) (h4 : dd ≤ 4) (hn1 : 1 ≤ n) (hn21 : 1 ≤ n2) (hd1 : 1 ≤ d) (hd21 : 1 ≤ d2) (ht : M.1 139 q = nI 1) : ∀ sz : Nat, Met l yX8_whyNotMultiply (.code yX8_whyNotMultiply cX8_whyNotMultiply 2 (some .int) :: TT) { frames := 3, cells := 0, slots := 0, locals := 71 } (va_Pc [.ref (ad 135), .int (nI q)] (fun U9 => U9.heap.size = sz ∧ wB D cs ad (fA ad sz) M U9)) (va_Qi (fun r M2 => r = lpr (M.1 136) (fun p => M.1 138 (55 * q + p)) N dd n2 d2 ∧ M2 = mA (mI M 135 7 (nI 0)) 142 (mdR (M.1 142) (M.1 136) (fun p => M.1 138 (55 * q + p)) N dd n2 d2)) (wB D cs ad (fA ad sz)) (fA ad sz)) 0 0 (fA ad sz) := by
  refine st_I (by decide) (Nat.le_of_ble_eq_true rfl) (fun κ C E => ?_)
  refine r_lv (lv2 := [(0, .ref (ad 135)), (1, .int (nI q))]) [0, 1] rfl ?_
  refine r_aload_n C dX8_whyNotMultiply_0 rfl 0 rfl ?_
  refine r_aload_n C dX8_whyNotMultiply_1 rfl 0 rfl ?_
  refine r_iload_n C dX8_whyNotMultiply_2 rfl 1 rfl ?_
  refine r_pcallV_i (nA := 1) C (Nat.le_of_ble_eq_true rfl) [.int (nI q)] (c_X8_refusedT l D cs ad M q (by omega) ht) (tt_V ml_X8_138 im_X8_refusedSnapshot se_X8_refusedSnapshot in_X8 co_X8_refusedSnapshot) ⟨rfl, rfl⟩ ⟨rfl, by decide, by decide, by decide⟩ ⟨Nat.le_of_ble_eq_true rfl, Nat.le_of_ble_eq_true rfl⟩ (by decide) rfl rfl rfl rfl rfl (Nat.le_of_ble_eq_true rfl) dX8_whyNotMultiply_3 ?_
  refine r_put C (M2 := (mI M 135 7 (nI 0))) (Cn := RX8) (T := TX8) (N := 18) (id := 135) (by decide) inw_X8 tyX8_ok nmX8 rfl rfl 7 (by decide) rfl fl_X8_41 rfl rfl (rfl) (Nat.le_of_ble_eq_true rfl) (fun j hj => ⟨mI_ne _ hj, rfl⟩) rfl dX8_whyNotMultiply_6 ?_
  refine r_aload_n C dX8_whyNotMultiply_9 rfl 0 rfl ?_
  refine r_get C (Cn := RX8) (T := TX8) (N := 18) (id := 135) (by decide) inw_X8 rfl rfl 7 (by decide) rfl fl_X8_41 rfl dX8_whyNotMultiply_10 ?_
  refine r_topi (w := nI 0) (rfl) ?_
  refine r_if_le C 20 dX8_whyNotMultiply_13 (by decide) (fun h13 => ?_) (fun h13 => ?_)
  ·
    refine r_aload_n C dX8_whyNotMultiply_20 rfl 0 rfl ?_
    refine r_iload_n C dX8_whyNotMultiply_21 rfl 1 rfl ?_
    refine r_pcallV_i (nA := 1) C (Nat.le_of_ble_eq_true rfl) [.int (nI q)] (c_X8_layProduct3 l D cs ad (mI M 135 7 (nI 0))  n hn hn8 d hd hd4 q n2 d2 hq hn2 hd2 hn28 hd24 N dd hN hdd h8 h4 hn1 hn21 hd1 hd21) (tt_V ml_X8_141 im_X8_layProduct se_X8_layProduct in_X8 co_X8_layProduct) ⟨rfl, rfl⟩ ⟨rfl, by decide, by decide, by decide⟩ ⟨Nat.le_of_ble_eq_true rfl, Nat.le_of_ble_eq_true rfl⟩ (by decide) rfl rfl rfl rfl rfl (Nat.le_of_ble_eq_true rfl) dX8_whyNotMultiply_22 ?_
    refine r_topi (w := (lpr (M.1 136) (fun p => M.1 138 (55 * q + p)) N dd n2 d2)) rfl ?_
    exact E 0 _ _ _ _ (Nat.le_of_ble_eq_true rfl) dX8_whyNotMultiply_25 (⟨rfl, rfl⟩)
  · exact absurd h13 (by decide)
