/-! ===== the product (written by wip/whole/gen/model5.py) ===== -/
set_option maxRecDepth 100000 in
set_option maxHeartbeats 4000000 in
theorem c_X8_layProduct1 (l : Launch) (D : va_G) (cs : Nat → ClassId) (ad : Nat → Nat) (M : Mm) (n : Nat) (hn : M.1 136 0 = nI n) (hn8 : n ≤ 8) (d : Nat) (hd : M.1 136 1 = nI d) (hd4 : d ≤ 4) (q n2 d2 : Nat) (hq : q ≤ 1) (hn2 : M.1 138 (55 * q) = nI n2) (hd2 : M.1 138 (55 * q + 1) = nI d2) (hn28 : n2 ≤ 8) (hd24 : d2 ≤ 4) (N dd : Nat) (hN : n * n2 = N) (hdd : d * d2 = dd) (h8 : 8 < N) : ∀ sz : Nat, Met l yX8_layProduct (.code yX8_layProduct cX8_layProduct 9 (some .int) :: TT) { frames := 1, cells := 0, slots := 0, locals := 22 } (va_Pc [.ref (ad 135), .int (nI q)] (fun U9 => U9.heap.size = sz ∧ wB D cs ad (fA ad sz) M U9)) (va_Qi (fun r M2 => r = nI 1 ∧ M2 = M) (wB D cs ad (fA ad sz)) (fA ad sz)) 0 0 (fA ad sz) := by
  have hN64 : N ≤ 64 := by rw [← hN]; exact Nat.mul_le_mul hn8 hn28
  have hd16 : dd ≤ 16 := by rw [← hdd]; exact Nat.mul_le_mul hd4 hd24
  refine st_I (by decide) (Nat.le_of_ble_eq_true rfl) (fun κ C E => ?_)
  refine r_lv (lv2 := [(0, .ref (ad 135)), (1, .int (nI q))]) [0, 1] rfl ?_
  refine r_aload_n C dX8_layProduct_0 rfl 0 rfl ?_
  refine r_iload_n C dX8_layProduct_1 rfl 1 rfl ?_
  refine r_iconst C (nI 0) dX8_layProduct_2 (by decide) ?_
  refine r_pcallV_i (nA := 2) C (Nat.le_of_ble_eq_true rfl) [.int (nI q), .int (nI 0)] (c_X8_other l D cs ad M q 0 (by omega) (by omega)) (tt_V ml_X8_129 im_X8_other se_X8_other in_X8 co_X8_other) ⟨rfl, rfl⟩ ⟨rfl, by decide, by decide, by decide⟩ ⟨Nat.le_of_ble_eq_true rfl, Nat.le_of_ble_eq_true rfl⟩ (by decide) rfl rfl rfl rfl rfl (Nat.le_of_ble_eq_true rfl) dX8_layProduct_3 ?_
  refine r_topi hn2 ?_
  refine r_istore_n C [(2, .int (nI n2)), (0, .ref (ad 135)), (1, .int (nI q))] dX8_layProduct_6 rfl (by decide) rfl ?_
  refine r_aload_n C dX8_layProduct_7 rfl 1 rfl ?_
  refine r_iload_n C dX8_layProduct_8 rfl 2 rfl ?_
  refine r_iconst C (nI 1) dX8_layProduct_9 (by decide) ?_
  refine r_pcallV_i (nA := 2) C (Nat.le_of_ble_eq_true rfl) [.int (nI q), .int (nI 1)] (c_X8_other l D cs ad M q 1 (by omega) (by omega)) (tt_V ml_X8_129 im_X8_other se_X8_other in_X8 co_X8_other) ⟨rfl, rfl⟩ ⟨rfl, by decide, by decide, by decide⟩ ⟨Nat.le_of_ble_eq_true rfl, Nat.le_of_ble_eq_true rfl⟩ (by decide) rfl rfl rfl rfl rfl (Nat.le_of_ble_eq_true rfl) dX8_layProduct_10 ?_
  refine r_topi hd2 ?_
  refine r_istore_n C [(3, .int (nI d2)), (2, .int (nI n2)), (0, .ref (ad 135)), (1, .int (nI q))] dX8_layProduct_13 rfl (by decide) rfl ?_
  refine r_aload_n C dX8_layProduct_14 rfl 2 rfl ?_
  refine r_get C (Cn := RX8) (T := TX8) (N := 18) (id := 135) (by decide) inw_X8 rfl rfl 0 (by decide) rfl fl_X8_7 rfl dX8_layProduct_15 ?_
  refine r_iconst C (nI 0) dX8_layProduct_18 (by decide) ?_
  refine r_iald C (id := 136) (n := 55) (a := 0) (by decide) rfl (by decide) (by decide) dX8_layProduct_19 ?_
  refine r_topi hn ?_
  refine r_iload_n C dX8_layProduct_20 rfl 1 rfl ?_
  refine r_imul C dX8_layProduct_21 ?_
  refine r_topi (pk_mul n n2) ?_
  refine r_topi (w := nI N) (congrArg nI hN) ?_
  refine r_bipush C (nI 8) dX8_layProduct_22 (by decide) ?_
  refine r_icmpN_le C 29 dX8_layProduct_24 (by decide) (by omega) (by omega) (fun h24 => ?_) (fun h24 => ?_)
  · exact absurd h24 (by omega)
  ·
    refine r_iconst C (nI 1) dX8_layProduct_27 (by decide) ?_
    exact E 0 _ _ _ _ (Nat.le_of_ble_eq_true rfl) dX8_layProduct_28 (⟨rfl, rfl⟩)
set_option maxRecDepth 100000 in
set_option maxHeartbeats 4000000 in
theorem c_X8_layProduct2 (l : Launch) (D : va_G) (cs : Nat → ClassId) (ad : Nat → Nat) (M : Mm) (n : Nat) (hn : M.1 136 0 = nI n) (hn8 : n ≤ 8) (d : Nat) (hd : M.1 136 1 = nI d) (hd4 : d ≤ 4) (q n2 d2 : Nat) (hq : q ≤ 1) (hn2 : M.1 138 (55 * q) = nI n2) (hd2 : M.1 138 (55 * q + 1) = nI d2) (hn28 : n2 ≤ 8) (hd24 : d2 ≤ 4) (N dd : Nat) (hN : n * n2 = N) (hdd : d * d2 = dd) (h8 : N ≤ 8) (h4 : 4 < dd) : ∀ sz : Nat, Met l yX8_layProduct (.code yX8_layProduct cX8_layProduct 9 (some .int) :: TT) { frames := 1, cells := 0, slots := 0, locals := 22 } (va_Pc [.ref (ad 135), .int (nI q)] (fun U9 => U9.heap.size = sz ∧ wB D cs ad (fA ad sz) M U9)) (va_Qi (fun r M2 => r = nI 2 ∧ M2 = M) (wB D cs ad (fA ad sz)) (fA ad sz)) 0 0 (fA ad sz) := by
  have hN64 : N ≤ 64 := by rw [← hN]; exact Nat.mul_le_mul hn8 hn28
  have hd16 : dd ≤ 16 := by rw [← hdd]; exact Nat.mul_le_mul hd4 hd24
  refine st_I (by decide) (Nat.le_of_ble_eq_true rfl) (fun κ C E => ?_)
  refine r_lv (lv2 := [(0, .ref (ad 135)), (1, .int (nI q))]) [0, 1] rfl ?_
  refine r_aload_n C dX8_layProduct_0 rfl 0 rfl ?_
  refine r_iload_n C dX8_layProduct_1 rfl 1 rfl ?_
  refine r_iconst C (nI 0) dX8_layProduct_2 (by decide) ?_
  refine r_pcallV_i (nA := 2) C (Nat.le_of_ble_eq_true rfl) [.int (nI q), .int (nI 0)] (c_X8_other l D cs ad M q 0 (by omega) (by omega)) (tt_V ml_X8_129 im_X8_other se_X8_other in_X8 co_X8_other) ⟨rfl, rfl⟩ ⟨rfl, by decide, by decide, by decide⟩ ⟨Nat.le_of_ble_eq_true rfl, Nat.le_of_ble_eq_true rfl⟩ (by decide) rfl rfl rfl rfl rfl (Nat.le_of_ble_eq_true rfl) dX8_layProduct_3 ?_
  refine r_topi hn2 ?_
  refine r_istore_n C [(2, .int (nI n2)), (0, .ref (ad 135)), (1, .int (nI q))] dX8_layProduct_6 rfl (by decide) rfl ?_
  refine r_aload_n C dX8_layProduct_7 rfl 1 rfl ?_
  refine r_iload_n C dX8_layProduct_8 rfl 2 rfl ?_
  refine r_iconst C (nI 1) dX8_layProduct_9 (by decide) ?_
  refine r_pcallV_i (nA := 2) C (Nat.le_of_ble_eq_true rfl) [.int (nI q), .int (nI 1)] (c_X8_other l D cs ad M q 1 (by omega) (by omega)) (tt_V ml_X8_129 im_X8_other se_X8_other in_X8 co_X8_other) ⟨rfl, rfl⟩ ⟨rfl, by decide, by decide, by decide⟩ ⟨Nat.le_of_ble_eq_true rfl, Nat.le_of_ble_eq_true rfl⟩ (by decide) rfl rfl rfl rfl rfl (Nat.le_of_ble_eq_true rfl) dX8_layProduct_10 ?_
  refine r_topi hd2 ?_
  refine r_istore_n C [(3, .int (nI d2)), (2, .int (nI n2)), (0, .ref (ad 135)), (1, .int (nI q))] dX8_layProduct_13 rfl (by decide) rfl ?_
  refine r_aload_n C dX8_layProduct_14 rfl 2 rfl ?_
  refine r_get C (Cn := RX8) (T := TX8) (N := 18) (id := 135) (by decide) inw_X8 rfl rfl 0 (by decide) rfl fl_X8_7 rfl dX8_layProduct_15 ?_
  refine r_iconst C (nI 0) dX8_layProduct_18 (by decide) ?_
  refine r_iald C (id := 136) (n := 55) (a := 0) (by decide) rfl (by decide) (by decide) dX8_layProduct_19 ?_
  refine r_topi hn ?_
  refine r_iload_n C dX8_layProduct_20 rfl 1 rfl ?_
  refine r_imul C dX8_layProduct_21 ?_
  refine r_topi (pk_mul n n2) ?_
  refine r_topi (w := nI N) (congrArg nI hN) ?_
  refine r_bipush C (nI 8) dX8_layProduct_22 (by decide) ?_
  refine r_icmpN_le C 29 dX8_layProduct_24 (by decide) (by omega) (by omega) (fun h24 => ?_) (fun h24 => ?_)
  ·
    refine r_aload_n C dX8_layProduct_29 rfl 2 rfl ?_
    refine r_get C (Cn := RX8) (T := TX8) (N := 18) (id := 135) (by decide) inw_X8 rfl rfl 0 (by decide) rfl fl_X8_7 rfl dX8_layProduct_30 ?_
    refine r_iconst C (nI 1) dX8_layProduct_33 (by decide) ?_
    refine r_iald C (id := 136) (n := 55) (a := 1) (by decide) rfl (by decide) (by decide) dX8_layProduct_34 ?_
    refine r_topi hd ?_
    refine r_iload_n C dX8_layProduct_35 rfl 0 rfl ?_
    refine r_imul C dX8_layProduct_36 ?_
    refine r_topi (pk_mul d d2) ?_
    refine r_topi (w := nI dd) (congrArg nI hdd) ?_
    refine r_iconst C (nI 4) dX8_layProduct_37 (by decide) ?_
    refine r_icmpN_le C 43 dX8_layProduct_38 (by decide) (by omega) (by omega) (fun h38 => ?_) (fun h38 => ?_)
    · exact absurd h38 (by omega)
    ·
      refine r_iconst C (nI 2) dX8_layProduct_41 (by decide) ?_
      exact E 0 _ _ _ _ (Nat.le_of_ble_eq_true rfl) dX8_layProduct_42 (⟨rfl, rfl⟩)
  · exact absurd h8 h24
set_option maxRecDepth 100000 in
set_option maxHeartbeats 4000000 in
theorem c_X8_layProduct3 (l : Launch) (D : va_G) (cs : Nat → ClassId) (ad : Nat → Nat) (M : Mm) (n : Nat) (hn : M.1 136 0 = nI n) (hn8 : n ≤ 8) (d : Nat) (hd : M.1 136 1 = nI d) (hd4 : d ≤ 4) (q n2 d2 : Nat) (hq : q ≤ 1) (hn2 : M.1 138 (55 * q) = nI n2) (hd2 : M.1 138 (55 * q + 1) = nI d2) (hn28 : n2 ≤ 8) (hd24 : d2 ≤ 4) (N dd : Nat) (hN : n * n2 = N) (hdd : d * d2 = dd) (h8 : N ≤ 8) (h4 : dd ≤ 4) (hn1 : 1 ≤ n) (hn21 : 1 ≤ n2) (hd1 : 1 ≤ d) (hd21 : 1 ≤ d2) : ∀ sz : Nat, Met l yX8_layProduct (.code yX8_layProduct cX8_layProduct 9 (some .int) :: TT) { frames := 2, cells := 0, slots := 0, locals := 43 } (va_Pc [.ref (ad 135), .int (nI q)] (fun U9 => U9.heap.size = sz ∧ wB D cs ad (fA ad sz) M U9)) (va_Qi (fun r M2 => r = lpr (M.1 136) (fun p => M.1 138 (55 * q + p)) N dd n2 d2 ∧ M2 = mA M 142 (mdR (M.1 142) (M.1 136) (fun p => M.1 138 (55 * q + p)) N dd n2 d2)) (wB D cs ad (fA ad sz)) (fA ad sz)) 0 0 (fA ad sz) := by
  have hqn : ∀ k, k < N → k / n2 < n := fun k h => Nat.div_lt_of_lt_mul (by rw [Nat.mul_comm, hN]; exact h)
  have hqd : ∀ p, p < dd → p / d2 < d := fun p h => Nat.div_lt_of_lt_mul (by rw [Nat.mul_comm, hdd]; exact h)
  have hNp : 0 < N := by rw [← hN]; exact Nat.mul_pos (by omega) (by omega)
  refine st_I (by decide) (Nat.le_of_ble_eq_true rfl) (fun κ C E => ?_)
  refine r_lv (lv2 := [(0, .ref (ad 135)), (1, .int (nI q))]) [0, 1] rfl ?_
  refine r_aload_n C dX8_layProduct_0 rfl 0 rfl ?_
  refine r_iload_n C dX8_layProduct_1 rfl 1 rfl ?_
  refine r_iconst C (nI 0) dX8_layProduct_2 (by decide) ?_
  refine r_pcallV_i (nA := 2) C (Nat.le_of_ble_eq_true rfl) [.int (nI q), .int (nI 0)] (c_X8_other l D cs ad M q 0 (by omega) (by omega)) (tt_V ml_X8_129 im_X8_other se_X8_other in_X8 co_X8_other) ⟨rfl, rfl⟩ ⟨rfl, by decide, by decide, by decide⟩ ⟨Nat.le_of_ble_eq_true rfl, Nat.le_of_ble_eq_true rfl⟩ (by decide) rfl rfl rfl rfl rfl (Nat.le_of_ble_eq_true rfl) dX8_layProduct_3 ?_
  refine r_topi hn2 ?_
  refine r_istore_n C [(2, .int (nI n2)), (0, .ref (ad 135)), (1, .int (nI q))] dX8_layProduct_6 rfl (by decide) rfl ?_
  refine r_aload_n C dX8_layProduct_7 rfl 1 rfl ?_
  refine r_iload_n C dX8_layProduct_8 rfl 2 rfl ?_
  refine r_iconst C (nI 1) dX8_layProduct_9 (by decide) ?_
  refine r_pcallV_i (nA := 2) C (Nat.le_of_ble_eq_true rfl) [.int (nI q), .int (nI 1)] (c_X8_other l D cs ad M q 1 (by omega) (by omega)) (tt_V ml_X8_129 im_X8_other se_X8_other in_X8 co_X8_other) ⟨rfl, rfl⟩ ⟨rfl, by decide, by decide, by decide⟩ ⟨Nat.le_of_ble_eq_true rfl, Nat.le_of_ble_eq_true rfl⟩ (by decide) rfl rfl rfl rfl rfl (Nat.le_of_ble_eq_true rfl) dX8_layProduct_10 ?_
  refine r_topi hd2 ?_
  refine r_istore_n C [(3, .int (nI d2)), (2, .int (nI n2)), (0, .ref (ad 135)), (1, .int (nI q))] dX8_layProduct_13 rfl (by decide) rfl ?_
  refine r_aload_n C dX8_layProduct_14 rfl 2 rfl ?_
  refine r_get C (Cn := RX8) (T := TX8) (N := 18) (id := 135) (by decide) inw_X8 rfl rfl 0 (by decide) rfl fl_X8_7 rfl dX8_layProduct_15 ?_
  refine r_iconst C (nI 0) dX8_layProduct_18 (by decide) ?_
  refine r_iald C (id := 136) (n := 55) (a := 0) (by decide) rfl (by decide) (by decide) dX8_layProduct_19 ?_
  refine r_topi hn ?_
  refine r_iload_n C dX8_layProduct_20 rfl 1 rfl ?_
  refine r_imul C dX8_layProduct_21 ?_
  refine r_topi (pk_mul n n2) ?_
  refine r_topi (w := nI N) (congrArg nI hN) ?_
  refine r_bipush C (nI 8) dX8_layProduct_22 (by decide) ?_
  refine r_icmpN_le C 29 dX8_layProduct_24 (by decide) (by omega) (by omega) (fun h24 => ?_) (fun h24 => ?_)
  ·
    refine r_aload_n C dX8_layProduct_29 rfl 2 rfl ?_
    refine r_get C (Cn := RX8) (T := TX8) (N := 18) (id := 135) (by decide) inw_X8 rfl rfl 0 (by decide) rfl fl_X8_7 rfl dX8_layProduct_30 ?_
    refine r_iconst C (nI 1) dX8_layProduct_33 (by decide) ?_
    refine r_iald C (id := 136) (n := 55) (a := 1) (by decide) rfl (by decide) (by decide) dX8_layProduct_34 ?_
    refine r_topi hd ?_
    refine r_iload_n C dX8_layProduct_35 rfl 0 rfl ?_
    refine r_imul C dX8_layProduct_36 ?_
    refine r_topi (pk_mul d d2) ?_
    refine r_topi (w := nI dd) (congrArg nI hdd) ?_
    refine r_iconst C (nI 4) dX8_layProduct_37 (by decide) ?_
    refine r_icmpN_le C 43 dX8_layProduct_38 (by decide) (by omega) (by omega) (fun h38 => ?_) (fun h38 => ?_)
    ·
      refine r_iconst C (nI 1) dX8_layProduct_43 (by decide) ?_
      refine r_istore C [(4, .int (nI 1)), (3, .int (nI d2)), (2, .int (nI n2)), (0, .ref (ad 135)), (1, .int (nI q))] dX8_layProduct_44 (by decide) rfl ?_
      refine r_iconst C (nI 1) dX8_layProduct_46 (by decide) ?_
      refine r_istore C [(5, .int (nI 1)), (4, .int (nI 1)), (3, .int (nI d2)), (2, .int (nI n2)), (0, .ref (ad 135)), (1, .int (nI q))] dX8_layProduct_47 (by decide) rfl ?_
      refine r_iconst C (nI 0) dX8_layProduct_49 (by decide) ?_
      refine r_istore C [(6, .int (nI 0)), (5, .int (nI 1)), (4, .int (nI 1)), (3, .int (nI d2)), (2, .int (nI n2)), (0, .ref (ad 135)), (1, .int (nI q))] dX8_layProduct_50 (by decide) rfl ?_
      have Lz : ∀ (f k : Nat), 55 + 1 ≤ k + f → k ≤ 55 → VV l D cs ad 9 κ 0 (mA M 142 (emA (M.1 142) k)) 52 [(6, .int (nI k)), (5, .int (nI 1)), (4, .int (nI 1)), (3, .int (nI d2)), (2, .int (nI n2)), (0, .ref (ad 135)), (1, .int (nI q))] [] := by
        intro f
        induction f with
        | zero => intro k hk1 hk2; exact absurd hk1 (by omega)
        | succ f ih =>
          intro k hk1 hk2
          refine r_iload C dX8_layProduct_52 0 rfl ?_
          refine r_bipush C (nI 55) dX8_layProduct_54 (by decide) ?_
          refine r_icmpN_ge C 73 dX8_layProduct_56 (by decide) (by omega) (by omega) (fun h56 => ?_) (fun h56 => ?_)
          ·
            have hk9 : 55 = k := by omega
            subst hk9
            refine r_aload_n C dX8_layProduct_73 rfl 5 rfl ?_
            refine r_get C (Cn := RX8) (T := TX8) (N := 18) (id := 135) (by decide) inw_X8 rfl rfl 12 (by decide) rfl fl_X8_28 rfl dX8_layProduct_74 ?_
            refine r_iconst C (nI 0) dX8_layProduct_77 (by decide) ?_
            refine r_aload_n C dX8_layProduct_78 rfl 5 rfl ?_
            refine r_get C (Cn := RX8) (T := TX8) (N := 18) (id := 135) (by decide) inw_X8 rfl rfl 0 (by decide) rfl fl_X8_7 rfl dX8_layProduct_79 ?_
            refine r_iconst C (nI 0) dX8_layProduct_82 (by decide) ?_
            refine r_iald C (id := 136) (n := 55) (a := 0) (by decide) rfl (by decide) (by decide) dX8_layProduct_83 ?_
            refine r_topi (w := (M.1 136 0)) (rfl) ?_
            refine r_topi hn ?_
            refine r_iload_n C dX8_layProduct_84 rfl 4 rfl ?_
            refine r_imul C dX8_layProduct_85 ?_
            refine r_topi (pk_mul n n2) ?_
            refine r_topi (w := nI N) (congrArg nI hN) ?_
            refine r_iast C (id := 142) (n := 55) (a := 0) (by decide) (fun _ => rfl) (by decide) (by decide) dX8_layProduct_86 ?_
            refine r_aload_n C dX8_layProduct_87 rfl 5 rfl ?_
            refine r_get C (Cn := RX8) (T := TX8) (N := 18) (id := 135) (by decide) inw_X8 rfl rfl 12 (by decide) rfl fl_X8_28 rfl dX8_layProduct_88 ?_
            refine r_iconst C (nI 1) dX8_layProduct_91 (by decide) ?_
            refine r_aload_n C dX8_layProduct_92 rfl 5 rfl ?_
            refine r_get C (Cn := RX8) (T := TX8) (N := 18) (id := 135) (by decide) inw_X8 rfl rfl 0 (by decide) rfl fl_X8_7 rfl dX8_layProduct_93 ?_
            refine r_iconst C (nI 1) dX8_layProduct_96 (by decide) ?_
            refine r_iald C (id := 136) (n := 55) (a := 1) (by decide) rfl (by decide) (by decide) dX8_layProduct_97 ?_
            refine r_topi (w := (M.1 136 1)) (rfl) ?_
            refine r_topi hd ?_
            refine r_iload_n C dX8_layProduct_98 rfl 3 rfl ?_
            refine r_imul C dX8_layProduct_99 ?_
            refine r_topi (pk_mul d d2) ?_
            refine r_topi (w := nI dd) (congrArg nI hdd) ?_
            refine r_iast C (id := 142) (n := 55) (a := 1) (by decide) (fun _ => rfl) (by decide) (by decide) dX8_layProduct_100 ?_
            refine r_iconst C (nI 0) dX8_layProduct_101 (by decide) ?_
            refine r_istore C [(6, .int (nI 0)), (5, .int (nI 1)), (4, .int (nI 1)), (3, .int (nI d2)), (2, .int (nI n2)), (0, .ref (ad 135)), (1, .int (nI q))] dX8_layProduct_102 (by decide) rfl ?_
            have Lo : ∀ (f k : Nat), N + 1 ≤ k + f → k ≤ N → VV l D cs ad 9 κ 0 (mA M 142 (mdG (emZ (M.1 142)) (M.1 136) (fun p => M.1 138 (55 * q + p)) N dd n2 d2 k k 0 k 0 0)) 104 [(6, .int (nI k)), (5, .int (bI (fkB (M.1 136) (fun p => M.1 138 (55 * q + p)) n2 d2 dd k))), (4, .int (bI (wpB (M.1 136) (fun p => M.1 138 (55 * q + p)) n2 k))), (3, .int (nI d2)), (2, .int (nI n2)), (0, .ref (ad 135)), (1, .int (nI q))] [] := by
              intro f
              induction f with
              | zero => intro k hk1 hk2; exact absurd hk1 (by omega)
              | succ f ih =>
                intro k hk1 hk2
                refine r_iload C dX8_layProduct_104 0 rfl ?_
                refine r_aload_n C dX8_layProduct_106 rfl 5 rfl ?_
                refine r_get C (Cn := RX8) (T := TX8) (N := 18) (id := 135) (by decide) inw_X8 rfl rfl 12 (by decide) rfl fl_X8_28 rfl dX8_layProduct_107 ?_
                refine r_iconst C (nI 0) dX8_layProduct_110 (by decide) ?_
                refine r_iald C (id := 142) (n := 55) (a := 0) (by decide) rfl (by decide) (by decide) dX8_layProduct_111 ?_
                refine r_topi (w := nI N) (rfl) ?_
                refine r_icmpN_ge C 358 dX8_layProduct_112 (by decide) (by omega) (by omega) (fun h112 => ?_) (fun h112 => ?_)
                ·
                  have hk9 : N = k := by omega
                  subst hk9
                  refine r_iconst C (nI 0) dX8_layProduct_358 (by decide) ?_
                  refine r_istore C [(6, .int (nI 0)), (5, .int (bI (fkB (M.1 136) (fun p => M.1 138 (55 * q + p)) n2 d2 dd N))), (4, .int (bI (wpB (M.1 136) (fun p => M.1 138 (55 * q + p)) n2 N))), (3, .int (nI d2)), (2, .int (nI n2)), (0, .ref (ad 135)), (1, .int (nI q))] dX8_layProduct_359 (by decide) rfl ?_
                  have Lh : ∀ (f_p p : Nat), dd + 1 ≤ p + f_p → p ≤ dd → VV l D cs ad 9 κ 0 (mA M 142 (mdG (emZ (M.1 142)) (M.1 136) (fun p => M.1 138 (55 * q + p)) N dd n2 d2 N N 0 N 0 p)) 361 [(6, .int (nI p)), (5, .int (bI (fhB (M.1 136) (fun p => M.1 138 (55 * q + p)) d2 (fkB (M.1 136) (fun p => M.1 138 (55 * q + p)) n2 d2 dd N) p))), (4, .int (bI (wpB (M.1 136) (fun p => M.1 138 (55 * q + p)) n2 N))), (3, .int (nI d2)), (2, .int (nI n2)), (0, .ref (ad 135)), (1, .int (nI q))] [] := by
                    intro f_p
                    induction f_p with
                    | zero => intro p hk1_p hk2_p; exact absurd hk1_p (by omega)
                    | succ f_p ih_p =>
                      intro p hk1_p hk2_p
                      refine r_iload C dX8_layProduct_361 0 rfl ?_
                      refine r_aload_n C dX8_layProduct_363 rfl 5 rfl ?_
                      refine r_get C (Cn := RX8) (T := TX8) (N := 18) (id := 135) (by decide) inw_X8 rfl rfl 12 (by decide) rfl fl_X8_28 rfl dX8_layProduct_364 ?_
                      refine r_iconst C (nI 1) dX8_layProduct_367 (by decide) ?_
                      refine r_iald C (id := 142) (n := 55) (a := 1) (by decide) rfl (by decide) (by decide) dX8_layProduct_368 ?_
                      refine r_topi (w := nI dd) (rfl) ?_
                      refine r_icmpN_ge C 441 dX8_layProduct_369 (by decide) (by omega) (by omega) (fun h369 => ?_) (fun h369 => ?_)
                      ·
                        have hk9 : dd = p := by omega
                        subst hk9
                        refine r_iload C dX8_layProduct_441 2 rfl ?_
                        refine r_ifB_ne C 450 dX8_layProduct_443 (by decide) (fun h443 => ?_) (fun h443 => ?_)
                        ·
                          refine r_iload C dX8_layProduct_450 1 rfl ?_
                          refine r_ifB_ne C 459 dX8_layProduct_452 (by decide) (fun h452 => ?_) (fun h452 => ?_)
                          ·
                            refine r_iconst C (nI 0) dX8_layProduct_459 (by decide) ?_
                            exact E 0 _ _ _ _ (Nat.le_of_ble_eq_true rfl) dX8_layProduct_460 (⟨by simp [lpr, h24, h38, h56, h112, h369, h443, h452], rfl⟩)
                          ·
                            refine r_iconst C (nI 4) dX8_layProduct_455 (by decide) ?_
                            refine r_goto C 460 dX8_layProduct_456 (by decide) ?_
                            exact E 0 _ _ _ _ (Nat.le_of_ble_eq_true rfl) dX8_layProduct_460 (⟨by simp [lpr, h24, h38, h56, h112, h369, h443, h452], rfl⟩)
                        ·
                          refine r_iconst C (nI 3) dX8_layProduct_446 (by decide) ?_
                          refine r_goto C 460 dX8_layProduct_447 (by decide) ?_
                          exact E 0 _ _ _ _ (Nat.le_of_ble_eq_true rfl) dX8_layProduct_460 (⟨by simp [lpr, h24, h38, h56, h112, h369, h443], rfl⟩)
                      ·
                        have q3 : p / d2 < d := hqd p (by omega)
                        have r3 : p % d2 < d2 := Nat.mod_lt _ (by omega)
                        refine r_aload_n C dX8_layProduct_372 rfl 5 rfl ?_
                        refine r_get C (Cn := RX8) (T := TX8) (N := 18) (id := 135) (by decide) inw_X8 rfl rfl 12 (by decide) rfl fl_X8_28 rfl dX8_layProduct_373 ?_
                        refine r_bipush C (nI 50) dX8_layProduct_376 (by decide) ?_
                        refine r_iload C dX8_layProduct_378 0 rfl ?_
                        refine r_iadd C dX8_layProduct_380 ?_
                        refine r_topi (nI_add 50 p) ?_
                        refine r_aload_n C dX8_layProduct_381 rfl 5 rfl ?_
                        refine r_get C (Cn := RX8) (T := TX8) (N := 18) (id := 135) (by decide) inw_X8 rfl rfl 0 (by decide) rfl fl_X8_7 rfl dX8_layProduct_382 ?_
                        refine r_bipush C (nI 50) dX8_layProduct_385 (by decide) ?_
                        refine r_iload C dX8_layProduct_387 0 rfl ?_
                        refine r_iload_n C dX8_layProduct_389 rfl 3 rfl ?_
                        refine r_idiv C dX8_layProduct_390 (nI_ne0 (by omega) (by omega)) ?_
                        refine r_topi (pk_div (a := p) (d := d2) (by omega) (by omega) (by omega)) ?_
                        refine r_iadd C dX8_layProduct_391 ?_
                        refine r_topi (nI_add 50 (p / d2)) ?_
                        refine r_iald C (id := 136) (n := 55) (a := 50 + (p / d2)) (by decide) rfl (by omega) (by decide) dX8_layProduct_392 ?_
                        refine r_topi (w := (M.1 136 (50 + (p / d2)))) (rfl) ?_
                        refine r_aload_n C dX8_layProduct_393 rfl 5 rfl ?_
                        refine r_iload_n C dX8_layProduct_394 rfl 6 rfl ?_
                        refine r_bipush C (nI 50) dX8_layProduct_395 (by decide) ?_
                        refine r_iload C dX8_layProduct_397 0 rfl ?_
                        refine r_iload_n C dX8_layProduct_399 rfl 3 rfl ?_
                        refine r_irem C dX8_layProduct_400 (nI_ne0 (by omega) (by omega)) ?_
                        refine r_topi (pk_rem (a := p) (d := d2) (by omega) (by omega) (by omega)) ?_
                        refine r_iadd C dX8_layProduct_401 ?_
                        refine r_topi (nI_add 50 (p % d2)) ?_
                        refine r_pcallV_i (nA := 2) C (Nat.le_of_ble_eq_true rfl) [.int (nI q), .int (nI (50 + (p % d2)))] (c_X8_other l D cs ad (mA M 142 (mdG (emZ (M.1 142)) (M.1 136) (fun p => M.1 138 (55 * q + p)) N dd n2 d2 N N 0 N 0 p)) q (50 + (p % d2)) (by omega) (by omega)) (tt_V ml_X8_129 im_X8_other se_X8_other in_X8 co_X8_other) ⟨rfl, rfl⟩ ⟨rfl, by decide, by decide, by decide⟩ ⟨Nat.le_of_ble_eq_true rfl, Nat.le_of_ble_eq_true rfl⟩ (by decide) rfl rfl rfl rfl rfl (Nat.le_of_ble_eq_true rfl) dX8_layProduct_402 ?_
                        refine r_topi (w := (M.1 138 (55 * q + (50 + (p % d2))))) rfl ?_
                        refine r_imul C dX8_layProduct_405 ?_
                        refine r_topi (w := (phI (M.1 136) (fun p => M.1 138 (55 * q + p)) d2 p)) (rfl) ?_
                        refine r_iast C (id := 142) (n := 55) (a := 50 + p) (by decide) (fun _ => rfl) (by omega) (by decide) dX8_layProduct_406 ?_
                        refine r_iload C dX8_layProduct_407 1 rfl ?_
                        refine r_ifB_eq C 432 dX8_layProduct_409 (by decide) (fun h409 => ?_) (fun h409 => ?_)
                        ·
                          refine r_iconst C (nI 0) dX8_layProduct_432 (by decide) ?_
                          refine r_topi (w := bI (fhB (M.1 136) (fun p => M.1 138 (55 * q + p)) d2 (fkB (M.1 136) (fun p => M.1 138 (55 * q + p)) n2 d2 dd N) (p + 1))) (bI_off (by simp [fhB, h24, h38, h56, h112, h369, h409])) ?_
                          refine r_istore C [(5, .int (bI (fhB (M.1 136) (fun p => M.1 138 (55 * q + p)) d2 (fkB (M.1 136) (fun p => M.1 138 (55 * q + p)) n2 d2 dd N) (p + 1)))), (6, .int (nI p)), (4, .int (bI (wpB (M.1 136) (fun p => M.1 138 (55 * q + p)) n2 N))), (3, .int (nI d2)), (2, .int (nI n2)), (0, .ref (ad 135)), (1, .int (nI q))] dX8_layProduct_433 (by decide) rfl ?_
                          refine r_iinc C (nI (p + 1)) [(6, .int (nI (p + 1))), (5, .int (bI (fhB (M.1 136) (fun p => M.1 138 (55 * q + p)) d2 (fkB (M.1 136) (fun p => M.1 138 (55 * q + p)) n2 d2 dd N) (p + 1)))), (4, .int (bI (wpB (M.1 136) (fun p => M.1 138 (55 * q + p)) n2 N))), (3, .int (nI d2)), (2, .int (nI n2)), (0, .ref (ad 135)), (1, .int (nI q))] dX8_layProduct_435 (j := 1) rfl (inc_n p 1) (by decide) rfl ?_
                          refine r_goto C 361 dX8_layProduct_438 (by decide) ?_
                          refine r_lv (lv2 := [(6, .int (nI (p + 1))), (5, .int (bI (fhB (M.1 136) (fun p => M.1 138 (55 * q + p)) d2 (fkB (M.1 136) (fun p => M.1 138 (55 * q + p)) n2 d2 dd N) (p + 1)))), (4, .int (bI (wpB (M.1 136) (fun p => M.1 138 (55 * q + p)) n2 N))), (3, .int (nI d2)), (2, .int (nI n2)), (0, .ref (ad 135)), (1, .int (nI q))]) [0, 1, 2, 3, 4, 5, 6] rfl ?_
                          refine r_mem (M2 := (mA M 142 (mdG (emZ (M.1 142)) (M.1 136) (fun p => M.1 138 (55 * q + p)) N dd n2 d2 N N 0 N 0 (p + 1)))) (by rw [mIA]; exact congrArg _ (mdG_h (by omega) (by omega))) ?_
                          exact ih_p (p + 1) (by omega) (by omega)
                        ·
                          refine r_aload_n C dX8_layProduct_412 rfl 5 rfl ?_
                          refine r_get C (Cn := RX8) (T := TX8) (N := 18) (id := 135) (by decide) inw_X8 rfl rfl 12 (by decide) rfl fl_X8_28 rfl dX8_layProduct_413 ?_
                          refine r_bipush C (nI 50) dX8_layProduct_416 (by decide) ?_
                          refine r_iload C dX8_layProduct_418 0 rfl ?_
                          refine r_iadd C dX8_layProduct_420 ?_
                          refine r_topi (nI_add 50 p) ?_
                          refine r_iald C (id := 142) (n := 55) (a := 50 + p) (by decide) rfl (by omega) (by decide) dX8_layProduct_421 ?_
                          refine r_topi (w := (phI (M.1 136) (fun p => M.1 138 (55 * q + p)) d2 p)) (by simp [mI, mJ, mA, upd, vp_updL]) ?_
                          refine r_topi (w := (phI (M.1 136) (fun p => M.1 138 (55 * q + p)) d2 p)) (rfl) ?_
                          refine r_pcallS_i (nA := 1) C (Nat.le_of_ble_eq_true rfl) [.int (phI (M.1 136) (fun p => M.1 138 (55 * q + p)) d2 p)] (c_X8_isNumber l D cs ad (mI (mA M 142 (mdG (emZ (M.1 142)) (M.1 136) (fun p => M.1 138 (55 * q + p)) N dd n2 d2 N N 0 N 0 p)) 142 (50 + p) (phI (M.1 136) (fun p => M.1 138 (55 * q + p)) d2 p)) (phI (M.1 136) (fun p => M.1 138 (55 * q + p)) d2 p) ) (tt_S ml_X8_132 st_X8_isNumber in_X8 co_X8_isNumber) ⟨rfl, rfl⟩ ⟨rfl, by decide, by decide, by decide⟩ ⟨Nat.le_of_ble_eq_true rfl, Nat.le_of_ble_eq_true rfl⟩ rfl rfl (Nat.le_of_ble_eq_true rfl) dX8_layProduct_422 ?_
                          refine r_topi (w := bI (wit (phI (M.1 136) (fun p => M.1 138 (55 * q + p)) d2 p) (-9) (nI 9))) rfl ?_
                          refine r_ifB_eq C 432 dX8_layProduct_425 (by decide) (fun h425 => ?_) (fun h425 => ?_)
                          ·
                            refine r_iconst C (nI 0) dX8_layProduct_432 (by decide) ?_
                            refine r_topi (w := bI (fhB (M.1 136) (fun p => M.1 138 (55 * q + p)) d2 (fkB (M.1 136) (fun p => M.1 138 (55 * q + p)) n2 d2 dd N) (p + 1))) (bI_off (by simp [fhB, h24, h38, h56, h112, h369, h409, h425])) ?_
                            refine r_istore C [(5, .int (bI (fhB (M.1 136) (fun p => M.1 138 (55 * q + p)) d2 (fkB (M.1 136) (fun p => M.1 138 (55 * q + p)) n2 d2 dd N) (p + 1)))), (6, .int (nI p)), (4, .int (bI (wpB (M.1 136) (fun p => M.1 138 (55 * q + p)) n2 N))), (3, .int (nI d2)), (2, .int (nI n2)), (0, .ref (ad 135)), (1, .int (nI q))] dX8_layProduct_433 (by decide) rfl ?_
                            refine r_iinc C (nI (p + 1)) [(6, .int (nI (p + 1))), (5, .int (bI (fhB (M.1 136) (fun p => M.1 138 (55 * q + p)) d2 (fkB (M.1 136) (fun p => M.1 138 (55 * q + p)) n2 d2 dd N) (p + 1)))), (4, .int (bI (wpB (M.1 136) (fun p => M.1 138 (55 * q + p)) n2 N))), (3, .int (nI d2)), (2, .int (nI n2)), (0, .ref (ad 135)), (1, .int (nI q))] dX8_layProduct_435 (j := 1) rfl (inc_n p 1) (by decide) rfl ?_
                            refine r_goto C 361 dX8_layProduct_438 (by decide) ?_
                            refine r_lv (lv2 := [(6, .int (nI (p + 1))), (5, .int (bI (fhB (M.1 136) (fun p => M.1 138 (55 * q + p)) d2 (fkB (M.1 136) (fun p => M.1 138 (55 * q + p)) n2 d2 dd N) (p + 1)))), (4, .int (bI (wpB (M.1 136) (fun p => M.1 138 (55 * q + p)) n2 N))), (3, .int (nI d2)), (2, .int (nI n2)), (0, .ref (ad 135)), (1, .int (nI q))]) [0, 1, 2, 3, 4, 5, 6] rfl ?_
                            refine r_mem (M2 := (mA M 142 (mdG (emZ (M.1 142)) (M.1 136) (fun p => M.1 138 (55 * q + p)) N dd n2 d2 N N 0 N 0 (p + 1)))) (by rw [mIA]; exact congrArg _ (mdG_h (by omega) (by omega))) ?_
                            exact ih_p (p + 1) (by omega) (by omega)
                          ·
                            refine r_iconst C (nI 1) dX8_layProduct_428 (by decide) ?_
                            refine r_goto C 433 dX8_layProduct_429 (by decide) ?_
                            refine r_topi (w := bI (fhB (M.1 136) (fun p => M.1 138 (55 * q + p)) d2 (fkB (M.1 136) (fun p => M.1 138 (55 * q + p)) n2 d2 dd N) (p + 1))) (bI_on (by simp [fhB, h24, h38, h56, h112, h369, h409, h425])) ?_
                            refine r_istore C [(5, .int (bI (fhB (M.1 136) (fun p => M.1 138 (55 * q + p)) d2 (fkB (M.1 136) (fun p => M.1 138 (55 * q + p)) n2 d2 dd N) (p + 1)))), (6, .int (nI p)), (4, .int (bI (wpB (M.1 136) (fun p => M.1 138 (55 * q + p)) n2 N))), (3, .int (nI d2)), (2, .int (nI n2)), (0, .ref (ad 135)), (1, .int (nI q))] dX8_layProduct_433 (by decide) rfl ?_
                            refine r_iinc C (nI (p + 1)) [(6, .int (nI (p + 1))), (5, .int (bI (fhB (M.1 136) (fun p => M.1 138 (55 * q + p)) d2 (fkB (M.1 136) (fun p => M.1 138 (55 * q + p)) n2 d2 dd N) (p + 1)))), (4, .int (bI (wpB (M.1 136) (fun p => M.1 138 (55 * q + p)) n2 N))), (3, .int (nI d2)), (2, .int (nI n2)), (0, .ref (ad 135)), (1, .int (nI q))] dX8_layProduct_435 (j := 1) rfl (inc_n p 1) (by decide) rfl ?_
                            refine r_goto C 361 dX8_layProduct_438 (by decide) ?_
                            refine r_lv (lv2 := [(6, .int (nI (p + 1))), (5, .int (bI (fhB (M.1 136) (fun p => M.1 138 (55 * q + p)) d2 (fkB (M.1 136) (fun p => M.1 138 (55 * q + p)) n2 d2 dd N) (p + 1)))), (4, .int (bI (wpB (M.1 136) (fun p => M.1 138 (55 * q + p)) n2 N))), (3, .int (nI d2)), (2, .int (nI n2)), (0, .ref (ad 135)), (1, .int (nI q))]) [0, 1, 2, 3, 4, 5, 6] rfl ?_
                            refine r_mem (M2 := (mA M 142 (mdG (emZ (M.1 142)) (M.1 136) (fun p => M.1 138 (55 * q + p)) N dd n2 d2 N N 0 N 0 (p + 1)))) (by rw [mIA]; exact congrArg _ (mdG_h (by omega) (by omega))) ?_
                            exact ih_p (p + 1) (by omega) (by omega)
                  refine r_lv (lv2 := [(6, .int (nI 0)), (5, .int (bI (fhB (M.1 136) (fun p => M.1 138 (55 * q + p)) d2 (fkB (M.1 136) (fun p => M.1 138 (55 * q + p)) n2 d2 dd N) 0))), (4, .int (bI (wpB (M.1 136) (fun p => M.1 138 (55 * q + p)) n2 N))), (3, .int (nI d2)), (2, .int (nI n2)), (0, .ref (ad 135)), (1, .int (nI q))]) [0, 1, 2, 3, 4, 5, 6] rfl ?_
                  refine r_mem (M2 := (mA M 142 (mdG (emZ (M.1 142)) (M.1 136) (fun p => M.1 138 (55 * q + p)) N dd n2 d2 N N 0 N 0 0))) (rfl) ?_
                  exact Lh (dd + 1) 0 (by omega) (by omega)
                ·
                  have q1 : k / n2 < n := hqn k (by omega)
                  have r1 : k % n2 < n2 := Nat.mod_lt _ (by omega)
                  refine r_aload_n C dX8_layProduct_115 rfl 5 rfl ?_
                  refine r_get C (Cn := RX8) (T := TX8) (N := 18) (id := 135) (by decide) inw_X8 rfl rfl 12 (by decide) rfl fl_X8_28 rfl dX8_layProduct_116 ?_
                  refine r_iconst C (nI 2) dX8_layProduct_119 (by decide) ?_
                  refine r_iload C dX8_layProduct_120 0 rfl ?_
                  refine r_iadd C dX8_layProduct_122 ?_
                  refine r_topi (nI_add 2 k) ?_
                  refine r_aload_n C dX8_layProduct_123 rfl 5 rfl ?_
                  refine r_iload C dX8_layProduct_124 0 rfl ?_
                  refine r_iload_n C dX8_layProduct_126 rfl 4 rfl ?_
                  refine r_idiv C dX8_layProduct_127 (nI_ne0 (by omega) (by omega)) ?_
                  refine r_topi (pk_div (a := k) (d := n2) (by omega) (by omega) (by omega)) ?_
                  refine r_pcallV_i (nA := 1) C (Nat.le_of_ble_eq_true rfl) [.int (nI (k / n2))] (c_X8_weight l D cs ad (mA M 142 (mdG (emZ (M.1 142)) (M.1 136) (fun p => M.1 138 (55 * q + p)) N dd n2 d2 k k 0 k 0 0)) (k / n2) (by omega)) (tt_V ml_X8_70 im_X8_weight se_X8_weight in_X8 co_X8_weight) ⟨rfl, rfl⟩ ⟨rfl, by decide, by decide, by decide⟩ ⟨Nat.le_of_ble_eq_true rfl, Nat.le_of_ble_eq_true rfl⟩ (by decide) rfl rfl rfl rfl rfl (Nat.le_of_ble_eq_true rfl) dX8_layProduct_128 ?_
                  refine r_topi (w := (M.1 136 (2 + (k / n2)))) rfl ?_
                  refine r_aload_n C dX8_layProduct_131 rfl 5 rfl ?_
                  refine r_iload_n C dX8_layProduct_132 rfl 6 rfl ?_
                  refine r_iconst C (nI 2) dX8_layProduct_133 (by decide) ?_
                  refine r_iload C dX8_layProduct_134 0 rfl ?_
                  refine r_iload_n C dX8_layProduct_136 rfl 4 rfl ?_
                  refine r_irem C dX8_layProduct_137 (nI_ne0 (by omega) (by omega)) ?_
                  refine r_topi (pk_rem (a := k) (d := n2) (by omega) (by omega) (by omega)) ?_
                  refine r_iadd C dX8_layProduct_138 ?_
                  refine r_topi (nI_add 2 (k % n2)) ?_
                  refine r_pcallV_i (nA := 2) C (Nat.le_of_ble_eq_true rfl) [.int (nI q), .int (nI (2 + (k % n2)))] (c_X8_other l D cs ad (mA M 142 (mdG (emZ (M.1 142)) (M.1 136) (fun p => M.1 138 (55 * q + p)) N dd n2 d2 k k 0 k 0 0)) q (2 + (k % n2)) (by omega) (by omega)) (tt_V ml_X8_129 im_X8_other se_X8_other in_X8 co_X8_other) ⟨rfl, rfl⟩ ⟨rfl, by decide, by decide, by decide⟩ ⟨Nat.le_of_ble_eq_true rfl, Nat.le_of_ble_eq_true rfl⟩ (by decide) rfl rfl rfl rfl rfl (Nat.le_of_ble_eq_true rfl) dX8_layProduct_139 ?_
                  refine r_topi (w := (M.1 138 (55 * q + (2 + (k % n2))))) rfl ?_
                  refine r_imul C dX8_layProduct_142 ?_
                  refine r_iast C (id := 142) (n := 55) (a := 2 + k) (by decide) (fun _ => rfl) (by omega) (by decide) dX8_layProduct_143 ?_
                  refine r_iload C dX8_layProduct_144 2 rfl ?_
                  refine r_ifB_eq C 167 dX8_layProduct_146 (by decide) (fun h146 => ?_) (fun h146 => ?_)
                  ·
                    refine r_iconst C (nI 0) dX8_layProduct_167 (by decide) ?_
                    refine r_topi (w := bI (wpB (M.1 136) (fun p => M.1 138 (55 * q + p)) n2 (k + 1))) (bI_off (by simp [wpB, h24, h38, h56, h112, h146])) ?_
                    refine r_istore C [(4, .int (bI (wpB (M.1 136) (fun p => M.1 138 (55 * q + p)) n2 (k + 1)))), (6, .int (nI k)), (5, .int (bI (fkB (M.1 136) (fun p => M.1 138 (55 * q + p)) n2 d2 dd k))), (3, .int (nI d2)), (2, .int (nI n2)), (0, .ref (ad 135)), (1, .int (nI q))] dX8_layProduct_168 (by decide) rfl ?_
                    refine r_iconst C (nI 0) dX8_layProduct_170 (by decide) ?_
                    refine r_istore C [(7, .int (nI 0)), (4, .int (bI (wpB (M.1 136) (fun p => M.1 138 (55 * q + p)) n2 (k + 1)))), (6, .int (nI k)), (5, .int (bI (fkB (M.1 136) (fun p => M.1 138 (55 * q + p)) n2 d2 dd k))), (3, .int (nI d2)), (2, .int (nI n2)), (0, .ref (ad 135)), (1, .int (nI q))] dX8_layProduct_171 (by decide) rfl ?_
                    have Li : ∀ (f_i i : Nat), N + 1 ≤ i + f_i → i ≤ N → VV l D cs ad 9 κ 0 (mA M 142 (mdG (emZ (M.1 142)) (M.1 136) (fun p => M.1 138 (55 * q + p)) N dd n2 d2 (k + 1) k i k 0 0)) 173 [(7, .int (nI i)), (6, .int (nI k)), (5, .int (bI (fkB (M.1 136) (fun p => M.1 138 (55 * q + p)) n2 d2 dd k))), (4, .int (bI (wpB (M.1 136) (fun p => M.1 138 (55 * q + p)) n2 (k + 1)))), (3, .int (nI d2)), (2, .int (nI n2)), (0, .ref (ad 135)), (1, .int (nI q))] [] := by
                      intro f_i
                      induction f_i with
                      | zero => intro i hk1_i hk2_i; exact absurd hk1_i (by omega)
                      | succ f_i ih_i =>
                        intro i hk1_i hk2_i
                        refine r_iload C dX8_layProduct_173 0 rfl ?_
                        refine r_aload_n C dX8_layProduct_175 rfl 6 rfl ?_
                        refine r_get C (Cn := RX8) (T := TX8) (N := 18) (id := 135) (by decide) inw_X8 rfl rfl 12 (by decide) rfl fl_X8_28 rfl dX8_layProduct_176 ?_
                        refine r_iconst C (nI 0) dX8_layProduct_179 (by decide) ?_
                        refine r_iald C (id := 142) (n := 55) (a := 0) (by decide) rfl (by decide) (by decide) dX8_layProduct_180 ?_
                        refine r_topi (w := nI N) (rfl) ?_
                        refine r_icmpN_ge C 260 dX8_layProduct_181 (by decide) (by omega) (by omega) (fun h181 => ?_) (fun h181 => ?_)
                        ·
                          have hk9 : N = i := by omega
                          subst hk9
                          refine r_iconst C (nI 0) dX8_layProduct_260 (by decide) ?_
                          refine r_istore C [(7, .int (nI 0)), (6, .int (nI k)), (5, .int (bI (fkB (M.1 136) (fun p => M.1 138 (55 * q + p)) n2 d2 dd k))), (4, .int (bI (wpB (M.1 136) (fun p => M.1 138 (55 * q + p)) n2 (k + 1)))), (3, .int (nI d2)), (2, .int (nI n2)), (0, .ref (ad 135)), (1, .int (nI q))] dX8_layProduct_261 (by decide) rfl ?_
                          have Lp9 : ∀ (f_p p : Nat), dd + 1 ≤ p + f_p → p ≤ dd → VV l D cs ad 9 κ 0 (mA M 142 (mdG (emZ (M.1 142)) (M.1 136) (fun p => M.1 138 (55 * q + p)) N dd n2 d2 (k + 1) (k + 1) 0 k p 0)) 263 [(7, .int (nI p)), (6, .int (nI k)), (5, .int (bI (fpB (M.1 136) (fun p => M.1 138 (55 * q + p)) n2 d2 k (fkB (M.1 136) (fun p => M.1 138 (55 * q + p)) n2 d2 dd k) p))), (4, .int (bI (wpB (M.1 136) (fun p => M.1 138 (55 * q + p)) n2 (k + 1)))), (3, .int (nI d2)), (2, .int (nI n2)), (0, .ref (ad 135)), (1, .int (nI q))] [] := by
                            intro f_p
                            induction f_p with
                            | zero => intro p hk1_p hk2_p; exact absurd hk1_p (by omega)
                            | succ f_p ih_p =>
                              intro p hk1_p hk2_p
                              refine r_iload C dX8_layProduct_263 0 rfl ?_
                              refine r_aload_n C dX8_layProduct_265 rfl 6 rfl ?_
                              refine r_get C (Cn := RX8) (T := TX8) (N := 18) (id := 135) (by decide) inw_X8 rfl rfl 12 (by decide) rfl fl_X8_28 rfl dX8_layProduct_266 ?_
                              refine r_iconst C (nI 1) dX8_layProduct_269 (by decide) ?_
                              refine r_iald C (id := 142) (n := 55) (a := 1) (by decide) rfl (by decide) (by decide) dX8_layProduct_270 ?_
                              refine r_topi (w := nI dd) (rfl) ?_
                              refine r_icmpN_ge C 352 dX8_layProduct_271 (by decide) (by omega) (by omega) (fun h271 => ?_) (fun h271 => ?_)
                              ·
                                have hk9 : dd = p := by omega
                                subst hk9
                                refine r_iinc C (nI (k + 1)) [(6, .int (nI (k + 1))), (7, .int (nI dd)), (5, .int (bI (fpB (M.1 136) (fun p => M.1 138 (55 * q + p)) n2 d2 k (fkB (M.1 136) (fun p => M.1 138 (55 * q + p)) n2 d2 dd k) dd))), (4, .int (bI (wpB (M.1 136) (fun p => M.1 138 (55 * q + p)) n2 (k + 1)))), (3, .int (nI d2)), (2, .int (nI n2)), (0, .ref (ad 135)), (1, .int (nI q))] dX8_layProduct_352 (j := 1) rfl (inc_n k 1) (by decide) rfl ?_
                                refine r_goto C 104 dX8_layProduct_355 (by decide) ?_
                                refine r_lv (lv2 := [(6, .int (nI (k + 1))), (5, .int (bI (fkB (M.1 136) (fun p => M.1 138 (55 * q + p)) n2 d2 dd (k + 1)))), (4, .int (bI (wpB (M.1 136) (fun p => M.1 138 (55 * q + p)) n2 (k + 1)))), (3, .int (nI d2)), (2, .int (nI n2)), (0, .ref (ad 135)), (1, .int (nI q))]) [0, 2, 3, 4, 5, 6, 7] rfl ?_
                                refine r_mem (M2 := (mA M 142 (mdG (emZ (M.1 142)) (M.1 136) (fun p => M.1 138 (55 * q + p)) N dd n2 d2 (k + 1) (k + 1) 0 (k + 1) 0 0))) (by rw [mdG_L h4]) ?_
                                exact ih (k + 1) (by omega) (by omega)
                              ·
                                have q3 : p / d2 < d := hqd p (by omega)
                                have r3 : p % d2 < d2 := Nat.mod_lt _ (by omega)
                                refine r_aload_n C dX8_layProduct_274 rfl 6 rfl ?_
                                refine r_get C (Cn := RX8) (T := TX8) (N := 18) (id := 135) (by decide) inw_X8 rfl rfl 0 (by decide) rfl fl_X8_7 rfl dX8_layProduct_275 ?_
                                refine r_iload C dX8_layProduct_278 1 rfl ?_
                                refine r_iload_n C dX8_layProduct_280 rfl 5 rfl ?_
                                refine r_idiv C dX8_layProduct_281 (nI_ne0 (by omega) (by omega)) ?_
                                refine r_topi (pk_div (a := k) (d := n2) (by omega) (by omega) (by omega)) ?_
                                refine r_pcallS_i (nA := 1) C (Nat.le_of_ble_eq_true rfl) [.int (nI (k / n2))] (c_X8_labelAt l D cs ad (mA M 142 (mdG (emZ (M.1 142)) (M.1 136) (fun p => M.1 138 (55 * q + p)) N dd n2 d2 (k + 1) (k + 1) 0 k p 0)) (k / n2) ) (tt_S ml_X8_56 st_X8_labelAt in_X8 co_X8_labelAt) ⟨rfl, rfl⟩ ⟨rfl, by decide, by decide, by decide⟩ ⟨Nat.le_of_ble_eq_true rfl, Nat.le_of_ble_eq_true rfl⟩ rfl rfl (Nat.le_of_ble_eq_true rfl) dX8_layProduct_282 ?_
                                refine r_topi (w := nI (18 + 4 * (k / n2))) rfl ?_
                                refine r_iload C dX8_layProduct_285 0 rfl ?_
                                refine r_iload_n C dX8_layProduct_287 rfl 4 rfl ?_
                                refine r_idiv C dX8_layProduct_288 (nI_ne0 (by omega) (by omega)) ?_
                                refine r_topi (pk_div (a := p) (d := d2) (by omega) (by omega) (by omega)) ?_
                                refine r_iadd C dX8_layProduct_289 ?_
                                refine r_topi (nI_add (18 + 4 * (k / n2)) (p / d2)) ?_
                                refine r_iald C (id := 136) (n := 55) (a := (18 + 4 * (k / n2)) + (p / d2)) (by decide) rfl (by omega) (by decide) dX8_layProduct_290 ?_
                                refine r_topi (w := (M.1 136 ((18 + 4 * (k / n2)) + (p / d2)))) (rfl) ?_
                                refine r_aload_n C dX8_layProduct_291 rfl 6 rfl ?_
                                refine r_iload_n C dX8_layProduct_292 rfl 7 rfl ?_
                                refine r_iload C dX8_layProduct_293 1 rfl ?_
                                refine r_iload_n C dX8_layProduct_295 rfl 5 rfl ?_
                                refine r_irem C dX8_layProduct_296 (nI_ne0 (by omega) (by omega)) ?_
                                refine r_topi (pk_rem (a := k) (d := n2) (by omega) (by omega) (by omega)) ?_
                                refine r_pcallS_i (nA := 1) C (Nat.le_of_ble_eq_true rfl) [.int (nI (k % n2))] (c_X8_labelAt l D cs ad (mA M 142 (mdG (emZ (M.1 142)) (M.1 136) (fun p => M.1 138 (55 * q + p)) N dd n2 d2 (k + 1) (k + 1) 0 k p 0)) (k % n2) ) (tt_S ml_X8_56 st_X8_labelAt in_X8 co_X8_labelAt) ⟨rfl, rfl⟩ ⟨rfl, by decide, by decide, by decide⟩ ⟨Nat.le_of_ble_eq_true rfl, Nat.le_of_ble_eq_true rfl⟩ rfl rfl (Nat.le_of_ble_eq_true rfl) dX8_layProduct_297 ?_
                                refine r_topi (w := nI (18 + 4 * (k % n2))) rfl ?_
                                refine r_iload C dX8_layProduct_300 0 rfl ?_
                                refine r_iload_n C dX8_layProduct_302 rfl 4 rfl ?_
                                refine r_irem C dX8_layProduct_303 (nI_ne0 (by omega) (by omega)) ?_
                                refine r_topi (pk_rem (a := p) (d := d2) (by omega) (by omega) (by omega)) ?_
                                refine r_iadd C dX8_layProduct_304 ?_
                                refine r_topi (nI_add (18 + 4 * (k % n2)) (p % d2)) ?_
                                refine r_pcallV_i (nA := 2) C (Nat.le_of_ble_eq_true rfl) [.int (nI q), .int (nI ((18 + 4 * (k % n2)) + (p % d2)))] (c_X8_other l D cs ad (mA M 142 (mdG (emZ (M.1 142)) (M.1 136) (fun p => M.1 138 (55 * q + p)) N dd n2 d2 (k + 1) (k + 1) 0 k p 0)) q ((18 + 4 * (k % n2)) + (p % d2)) (by omega) (by omega)) (tt_V ml_X8_129 im_X8_other se_X8_other in_X8 co_X8_other) ⟨rfl, rfl⟩ ⟨rfl, by decide, by decide, by decide⟩ ⟨Nat.le_of_ble_eq_true rfl, Nat.le_of_ble_eq_true rfl⟩ (by decide) rfl rfl rfl rfl rfl (Nat.le_of_ble_eq_true rfl) dX8_layProduct_305 ?_
                                refine r_topi (w := (M.1 138 (55 * q + ((18 + 4 * (k % n2)) + (p % d2))))) rfl ?_
                                refine r_imul C dX8_layProduct_308 ?_
                                refine r_topi (w := (plI (M.1 136) (fun p => M.1 138 (55 * q + p)) n2 d2 k p)) (rfl) ?_
                                refine r_istore C [(8, .int (plI (M.1 136) (fun p => M.1 138 (55 * q + p)) n2 d2 k p)), (7, .int (nI p)), (6, .int (nI k)), (5, .int (bI (fpB (M.1 136) (fun p => M.1 138 (55 * q + p)) n2 d2 k (fkB (M.1 136) (fun p => M.1 138 (55 * q + p)) n2 d2 dd k) p))), (4, .int (bI (wpB (M.1 136) (fun p => M.1 138 (55 * q + p)) n2 (k + 1)))), (3, .int (nI d2)), (2, .int (nI n2)), (0, .ref (ad 135)), (1, .int (nI q))] dX8_layProduct_309 (by decide) rfl ?_
                                refine r_aload_n C dX8_layProduct_311 rfl 7 rfl ?_
                                refine r_get C (Cn := RX8) (T := TX8) (N := 18) (id := 135) (by decide) inw_X8 rfl rfl 12 (by decide) rfl fl_X8_28 rfl dX8_layProduct_312 ?_
                                refine r_iload C dX8_layProduct_315 2 rfl ?_
                                refine r_pcallS_i (nA := 1) C (Nat.le_of_ble_eq_true rfl) [.int (nI k)] (c_X8_labelAt l D cs ad (mA M 142 (mdG (emZ (M.1 142)) (M.1 136) (fun p => M.1 138 (55 * q + p)) N dd n2 d2 (k + 1) (k + 1) 0 k p 0)) k ) (tt_S ml_X8_56 st_X8_labelAt in_X8 co_X8_labelAt) ⟨rfl, rfl⟩ ⟨rfl, by decide, by decide, by decide⟩ ⟨Nat.le_of_ble_eq_true rfl, Nat.le_of_ble_eq_true rfl⟩ rfl rfl (Nat.le_of_ble_eq_true rfl) dX8_layProduct_317 ?_
                                refine r_topi (w := nI (18 + 4 * k)) rfl ?_
                                refine r_iload C dX8_layProduct_320 1 rfl ?_
                                refine r_iadd C dX8_layProduct_322 ?_
                                refine r_topi (nI_add (18 + 4 * k) p) ?_
                                refine r_iload C dX8_layProduct_323 0 rfl ?_
                                refine r_iast C (id := 142) (n := 55) (a := (18 + 4 * k) + p) (by decide) (fun _ => rfl) (by omega) (by decide) dX8_layProduct_325 ?_
                                refine r_iload C dX8_layProduct_326 3 rfl ?_
                                refine r_ifB_eq C 343 dX8_layProduct_328 (by decide) (fun h328 => ?_) (fun h328 => ?_)
                                ·
                                  refine r_iconst C (nI 0) dX8_layProduct_343 (by decide) ?_
                                  refine r_topi (w := bI (fpB (M.1 136) (fun p => M.1 138 (55 * q + p)) n2 d2 k (fkB (M.1 136) (fun p => M.1 138 (55 * q + p)) n2 d2 dd k) (p + 1))) (bI_off (by simp [fpB, h24, h38, h56, h112, h146, h181, h271, h328])) ?_
                                  refine r_istore C [(5, .int (bI (fpB (M.1 136) (fun p => M.1 138 (55 * q + p)) n2 d2 k (fkB (M.1 136) (fun p => M.1 138 (55 * q + p)) n2 d2 dd k) (p + 1)))), (8, .int (plI (M.1 136) (fun p => M.1 138 (55 * q + p)) n2 d2 k p)), (7, .int (nI p)), (6, .int (nI k)), (4, .int (bI (wpB (M.1 136) (fun p => M.1 138 (55 * q + p)) n2 (k + 1)))), (3, .int (nI d2)), (2, .int (nI n2)), (0, .ref (ad 135)), (1, .int (nI q))] dX8_layProduct_344 (by decide) rfl ?_
                                  refine r_iinc C (nI (p + 1)) [(7, .int (nI (p + 1))), (5, .int (bI (fpB (M.1 136) (fun p => M.1 138 (55 * q + p)) n2 d2 k (fkB (M.1 136) (fun p => M.1 138 (55 * q + p)) n2 d2 dd k) (p + 1)))), (8, .int (plI (M.1 136) (fun p => M.1 138 (55 * q + p)) n2 d2 k p)), (6, .int (nI k)), (4, .int (bI (wpB (M.1 136) (fun p => M.1 138 (55 * q + p)) n2 (k + 1)))), (3, .int (nI d2)), (2, .int (nI n2)), (0, .ref (ad 135)), (1, .int (nI q))] dX8_layProduct_346 (j := 2) rfl (inc_n p 1) (by decide) rfl ?_
                                  refine r_goto C 263 dX8_layProduct_349 (by decide) ?_
                                  refine r_lv (lv2 := [(7, .int (nI (p + 1))), (6, .int (nI k)), (5, .int (bI (fpB (M.1 136) (fun p => M.1 138 (55 * q + p)) n2 d2 k (fkB (M.1 136) (fun p => M.1 138 (55 * q + p)) n2 d2 dd k) (p + 1)))), (4, .int (bI (wpB (M.1 136) (fun p => M.1 138 (55 * q + p)) n2 (k + 1)))), (3, .int (nI d2)), (2, .int (nI n2)), (0, .ref (ad 135)), (1, .int (nI q))]) [0, 3, 1, 4, 5, 6, 7, 8] rfl ?_
                                  refine r_mem (M2 := (mA M 142 (mdG (emZ (M.1 142)) (M.1 136) (fun p => M.1 138 (55 * q + p)) N dd n2 d2 (k + 1) (k + 1) 0 k (p + 1) 0))) (by rw [mIA]; exact congrArg _ (mdG_l (by omega) (by omega))) ?_
                                  exact ih_p (p + 1) (by omega) (by omega)
                                ·
                                  refine r_iload C dX8_layProduct_331 0 rfl ?_
                                  refine r_pcallS_i (nA := 1) C (Nat.le_of_ble_eq_true rfl) [.int (plI (M.1 136) (fun p => M.1 138 (55 * q + p)) n2 d2 k p)] (c_X8_isNumber l D cs ad (mI (mA M 142 (mdG (emZ (M.1 142)) (M.1 136) (fun p => M.1 138 (55 * q + p)) N dd n2 d2 (k + 1) (k + 1) 0 k p 0)) 142 ((18 + 4 * k) + p) (plI (M.1 136) (fun p => M.1 138 (55 * q + p)) n2 d2 k p)) (plI (M.1 136) (fun p => M.1 138 (55 * q + p)) n2 d2 k p) ) (tt_S ml_X8_132 st_X8_isNumber in_X8 co_X8_isNumber) ⟨rfl, rfl⟩ ⟨rfl, by decide, by decide, by decide⟩ ⟨Nat.le_of_ble_eq_true rfl, Nat.le_of_ble_eq_true rfl⟩ rfl rfl (Nat.le_of_ble_eq_true rfl) dX8_layProduct_333 ?_
                                  refine r_topi (w := bI (wit (plI (M.1 136) (fun p => M.1 138 (55 * q + p)) n2 d2 k p) (-9) (nI 9))) rfl ?_
                                  refine r_ifB_eq C 343 dX8_layProduct_336 (by decide) (fun h336 => ?_) (fun h336 => ?_)
                                  ·
                                    refine r_iconst C (nI 0) dX8_layProduct_343 (by decide) ?_
                                    refine r_topi (w := bI (fpB (M.1 136) (fun p => M.1 138 (55 * q + p)) n2 d2 k (fkB (M.1 136) (fun p => M.1 138 (55 * q + p)) n2 d2 dd k) (p + 1))) (bI_off (by simp [fpB, h24, h38, h56, h112, h146, h181, h271, h328, h336])) ?_
                                    refine r_istore C [(5, .int (bI (fpB (M.1 136) (fun p => M.1 138 (55 * q + p)) n2 d2 k (fkB (M.1 136) (fun p => M.1 138 (55 * q + p)) n2 d2 dd k) (p + 1)))), (8, .int (plI (M.1 136) (fun p => M.1 138 (55 * q + p)) n2 d2 k p)), (7, .int (nI p)), (6, .int (nI k)), (4, .int (bI (wpB (M.1 136) (fun p => M.1 138 (55 * q + p)) n2 (k + 1)))), (3, .int (nI d2)), (2, .int (nI n2)), (0, .ref (ad 135)), (1, .int (nI q))] dX8_layProduct_344 (by decide) rfl ?_
                                    refine r_iinc C (nI (p + 1)) [(7, .int (nI (p + 1))), (5, .int (bI (fpB (M.1 136) (fun p => M.1 138 (55 * q + p)) n2 d2 k (fkB (M.1 136) (fun p => M.1 138 (55 * q + p)) n2 d2 dd k) (p + 1)))), (8, .int (plI (M.1 136) (fun p => M.1 138 (55 * q + p)) n2 d2 k p)), (6, .int (nI k)), (4, .int (bI (wpB (M.1 136) (fun p => M.1 138 (55 * q + p)) n2 (k + 1)))), (3, .int (nI d2)), (2, .int (nI n2)), (0, .ref (ad 135)), (1, .int (nI q))] dX8_layProduct_346 (j := 2) rfl (inc_n p 1) (by decide) rfl ?_
                                    refine r_goto C 263 dX8_layProduct_349 (by decide) ?_
                                    refine r_lv (lv2 := [(7, .int (nI (p + 1))), (6, .int (nI k)), (5, .int (bI (fpB (M.1 136) (fun p => M.1 138 (55 * q + p)) n2 d2 k (fkB (M.1 136) (fun p => M.1 138 (55 * q + p)) n2 d2 dd k) (p + 1)))), (4, .int (bI (wpB (M.1 136) (fun p => M.1 138 (55 * q + p)) n2 (k + 1)))), (3, .int (nI d2)), (2, .int (nI n2)), (0, .ref (ad 135)), (1, .int (nI q))]) [0, 3, 1, 4, 5, 6, 7, 8] rfl ?_
                                    refine r_mem (M2 := (mA M 142 (mdG (emZ (M.1 142)) (M.1 136) (fun p => M.1 138 (55 * q + p)) N dd n2 d2 (k + 1) (k + 1) 0 k (p + 1) 0))) (by rw [mIA]; exact congrArg _ (mdG_l (by omega) (by omega))) ?_
                                    exact ih_p (p + 1) (by omega) (by omega)
                                  ·
                                    refine r_iconst C (nI 1) dX8_layProduct_339 (by decide) ?_
                                    refine r_goto C 344 dX8_layProduct_340 (by decide) ?_
                                    refine r_topi (w := bI (fpB (M.1 136) (fun p => M.1 138 (55 * q + p)) n2 d2 k (fkB (M.1 136) (fun p => M.1 138 (55 * q + p)) n2 d2 dd k) (p + 1))) (bI_on (by simp [fpB, h24, h38, h56, h112, h146, h181, h271, h328, h336])) ?_
                                    refine r_istore C [(5, .int (bI (fpB (M.1 136) (fun p => M.1 138 (55 * q + p)) n2 d2 k (fkB (M.1 136) (fun p => M.1 138 (55 * q + p)) n2 d2 dd k) (p + 1)))), (8, .int (plI (M.1 136) (fun p => M.1 138 (55 * q + p)) n2 d2 k p)), (7, .int (nI p)), (6, .int (nI k)), (4, .int (bI (wpB (M.1 136) (fun p => M.1 138 (55 * q + p)) n2 (k + 1)))), (3, .int (nI d2)), (2, .int (nI n2)), (0, .ref (ad 135)), (1, .int (nI q))] dX8_layProduct_344 (by decide) rfl ?_
                                    refine r_iinc C (nI (p + 1)) [(7, .int (nI (p + 1))), (5, .int (bI (fpB (M.1 136) (fun p => M.1 138 (55 * q + p)) n2 d2 k (fkB (M.1 136) (fun p => M.1 138 (55 * q + p)) n2 d2 dd k) (p + 1)))), (8, .int (plI (M.1 136) (fun p => M.1 138 (55 * q + p)) n2 d2 k p)), (6, .int (nI k)), (4, .int (bI (wpB (M.1 136) (fun p => M.1 138 (55 * q + p)) n2 (k + 1)))), (3, .int (nI d2)), (2, .int (nI n2)), (0, .ref (ad 135)), (1, .int (nI q))] dX8_layProduct_346 (j := 2) rfl (inc_n p 1) (by decide) rfl ?_
                                    refine r_goto C 263 dX8_layProduct_349 (by decide) ?_
                                    refine r_lv (lv2 := [(7, .int (nI (p + 1))), (6, .int (nI k)), (5, .int (bI (fpB (M.1 136) (fun p => M.1 138 (55 * q + p)) n2 d2 k (fkB (M.1 136) (fun p => M.1 138 (55 * q + p)) n2 d2 dd k) (p + 1)))), (4, .int (bI (wpB (M.1 136) (fun p => M.1 138 (55 * q + p)) n2 (k + 1)))), (3, .int (nI d2)), (2, .int (nI n2)), (0, .ref (ad 135)), (1, .int (nI q))]) [0, 3, 1, 4, 5, 6, 7, 8] rfl ?_
                                    refine r_mem (M2 := (mA M 142 (mdG (emZ (M.1 142)) (M.1 136) (fun p => M.1 138 (55 * q + p)) N dd n2 d2 (k + 1) (k + 1) 0 k (p + 1) 0))) (by rw [mIA]; exact congrArg _ (mdG_l (by omega) (by omega))) ?_
                                    exact ih_p (p + 1) (by omega) (by omega)
                          refine r_lv (lv2 := [(7, .int (nI 0)), (6, .int (nI k)), (5, .int (bI (fpB (M.1 136) (fun p => M.1 138 (55 * q + p)) n2 d2 k (fkB (M.1 136) (fun p => M.1 138 (55 * q + p)) n2 d2 dd k) 0))), (4, .int (bI (wpB (M.1 136) (fun p => M.1 138 (55 * q + p)) n2 (k + 1)))), (3, .int (nI d2)), (2, .int (nI n2)), (0, .ref (ad 135)), (1, .int (nI q))]) [0, 1, 2, 3, 4, 5, 6, 7] rfl ?_
                          refine r_mem (M2 := (mA M 142 (mdG (emZ (M.1 142)) (M.1 136) (fun p => M.1 138 (55 * q + p)) N dd n2 d2 (k + 1) (k + 1) 0 k 0 0))) (by rw [mdG_N (by omega) hNp]) ?_
                          exact Lp9 (dd + 1) 0 (by omega) (by omega)
                        ·
                          have q2 : i / n2 < n := hqn i (by omega)
                          have r2 : i % n2 < n2 := Nat.mod_lt _ (by omega)
                          refine r_aload_n C dX8_layProduct_184 rfl 6 rfl ?_
                          refine r_iload C dX8_layProduct_185 1 rfl ?_
                          refine r_iload_n C dX8_layProduct_187 rfl 5 rfl ?_
                          refine r_idiv C dX8_layProduct_188 (nI_ne0 (by omega) (by omega)) ?_
                          refine r_topi (pk_div (a := k) (d := n2) (by omega) (by omega) (by omega)) ?_
                          refine r_iload C dX8_layProduct_189 0 rfl ?_
                          refine r_iload_n C dX8_layProduct_191 rfl 5 rfl ?_
                          refine r_idiv C dX8_layProduct_192 (nI_ne0 (by omega) (by omega)) ?_
                          refine r_topi (pk_div (a := i) (d := n2) (by omega) (by omega) (by omega)) ?_
                          refine r_pcallV_i (nA := 2) C (Nat.le_of_ble_eq_true rfl) [.int (nI (k / n2)), .int (nI (i / n2))] (c_X8_areJoined l D cs ad (mA M 142 (mdG (emZ (M.1 142)) (M.1 136) (fun p => M.1 138 (55 * q + p)) N dd n2 d2 (k + 1) k i k 0 0)) (k / n2) (i / n2) (by omega)) (tt_V ml_X8_67 im_X8_areJoined se_X8_areJoined in_X8 co_X8_areJoined) ⟨rfl, rfl⟩ ⟨rfl, by decide, by decide, by decide⟩ ⟨Nat.le_of_ble_eq_true rfl, Nat.le_of_ble_eq_true rfl⟩ (by decide) rfl rfl rfl rfl rfl (Nat.le_of_ble_eq_true rfl) dX8_layProduct_193 ?_
                          refine r_topi (w := bI (bt (M.1 136 (10 + (k / n2))) (i / n2))) rfl ?_
                          refine r_ifB_ne C 221 dX8_layProduct_196 (by decide) (fun h196 => ?_) (fun h196 => ?_)
                          ·
                            refine r_iconst C (nI 1) dX8_layProduct_221 (by decide) ?_
                            refine r_goto C 226 dX8_layProduct_222 (by decide) ?_
                            refine r_topi (w := bI (pjB (M.1 136) (fun p => M.1 138 (55 * q + p)) n2 k i)) (bI_on (by simp [pjB, h24, h38, h56, h112, h146, h181, h196])) ?_
                            refine r_istore C [(8, .int (bI (pjB (M.1 136) (fun p => M.1 138 (55 * q + p)) n2 k i))), (7, .int (nI i)), (6, .int (nI k)), (5, .int (bI (fkB (M.1 136) (fun p => M.1 138 (55 * q + p)) n2 d2 dd k))), (4, .int (bI (wpB (M.1 136) (fun p => M.1 138 (55 * q + p)) n2 (k + 1)))), (3, .int (nI d2)), (2, .int (nI n2)), (0, .ref (ad 135)), (1, .int (nI q))] dX8_layProduct_226 (by decide) rfl ?_
                            refine r_aload_n C dX8_layProduct_228 rfl 7 rfl ?_
                            refine r_get C (Cn := RX8) (T := TX8) (N := 18) (id := 135) (by decide) inw_X8 rfl rfl 12 (by decide) rfl fl_X8_28 rfl dX8_layProduct_229 ?_
                            refine r_bipush C (nI 10) dX8_layProduct_232 (by decide) ?_
                            refine r_iload C dX8_layProduct_234 2 rfl ?_
                            refine r_iadd C dX8_layProduct_236 ?_
                            refine r_topi (nI_add 10 k) ?_
                            refine r_dup2_11 C dX8_layProduct_237 rfl rfl ?_
                            refine r_iald C (id := 142) (n := 55) (a := 10 + k) (by decide) rfl (by omega) (by decide) dX8_layProduct_238 ?_
                            refine r_topi (w := (pmI (M.1 136) (fun p => M.1 138 (55 * q + p)) n2 k i)) (mdG_at emZ_z (by omega)) ?_
                            refine r_iload C dX8_layProduct_239 0 rfl ?_
                            refine r_ifB_eq C 251 dX8_layProduct_241 (by decide) (fun h241 => ?_) (fun h241 => ?_)
                            ·
                              refine r_iconst C (nI 0) dX8_layProduct_251 (by decide) ?_
                              refine r_topi (w := (if pjB (M.1 136) (fun p => M.1 138 (55 * q + p)) n2 k i = true then s1 i else nI 0)) (by simp [h24, h38, h56, h112, h146, h181, h196, h241]) ?_
                              refine r_ior C dX8_layProduct_252 ?_
                              refine r_iast C (id := 142) (n := 55) (a := 10 + k) (by decide) (fun _ => rfl) (by omega) (by decide) dX8_layProduct_253 ?_
                              refine r_iinc C (nI (i + 1)) [(7, .int (nI (i + 1))), (8, .int (bI (pjB (M.1 136) (fun p => M.1 138 (55 * q + p)) n2 k i))), (6, .int (nI k)), (5, .int (bI (fkB (M.1 136) (fun p => M.1 138 (55 * q + p)) n2 d2 dd k))), (4, .int (bI (wpB (M.1 136) (fun p => M.1 138 (55 * q + p)) n2 (k + 1)))), (3, .int (nI d2)), (2, .int (nI n2)), (0, .ref (ad 135)), (1, .int (nI q))] dX8_layProduct_254 (j := 1) rfl (inc_n i 1) (by decide) rfl ?_
                              refine r_goto C 173 dX8_layProduct_257 (by decide) ?_
                              refine r_lv (lv2 := [(7, .int (nI (i + 1))), (6, .int (nI k)), (5, .int (bI (fkB (M.1 136) (fun p => M.1 138 (55 * q + p)) n2 d2 dd k))), (4, .int (bI (wpB (M.1 136) (fun p => M.1 138 (55 * q + p)) n2 (k + 1)))), (3, .int (nI d2)), (2, .int (nI n2)), (0, .ref (ad 135)), (1, .int (nI q))]) [0, 2, 3, 4, 5, 6, 7, 8] rfl ?_
                              refine r_mem (M2 := (mA M 142 (mdG (emZ (M.1 142)) (M.1 136) (fun p => M.1 138 (55 * q + p)) N dd n2 d2 (k + 1) k (i + 1) k 0 0))) (by rw [mIA]; exact congrArg _ (mdG_n (by omega))) ?_
                              exact ih_i (i + 1) (by omega) (by omega)
                            ·
                              refine r_iconst C (nI 1) dX8_layProduct_244 (by decide) ?_
                              refine r_iload C dX8_layProduct_245 1 rfl ?_
                              refine r_ishl C dX8_layProduct_247 ?_
                              refine r_topi (w := s1 i) rfl ?_
                              refine r_goto C 252 dX8_layProduct_248 (by decide) ?_
                              refine r_topi (w := (if pjB (M.1 136) (fun p => M.1 138 (55 * q + p)) n2 k i = true then s1 i else nI 0)) (by simp [h24, h38, h56, h112, h146, h181, h196, h241]) ?_
                              refine r_ior C dX8_layProduct_252 ?_
                              refine r_iast C (id := 142) (n := 55) (a := 10 + k) (by decide) (fun _ => rfl) (by omega) (by decide) dX8_layProduct_253 ?_
                              refine r_iinc C (nI (i + 1)) [(7, .int (nI (i + 1))), (8, .int (bI (pjB (M.1 136) (fun p => M.1 138 (55 * q + p)) n2 k i))), (6, .int (nI k)), (5, .int (bI (fkB (M.1 136) (fun p => M.1 138 (55 * q + p)) n2 d2 dd k))), (4, .int (bI (wpB (M.1 136) (fun p => M.1 138 (55 * q + p)) n2 (k + 1)))), (3, .int (nI d2)), (2, .int (nI n2)), (0, .ref (ad 135)), (1, .int (nI q))] dX8_layProduct_254 (j := 1) rfl (inc_n i 1) (by decide) rfl ?_
                              refine r_goto C 173 dX8_layProduct_257 (by decide) ?_
                              refine r_lv (lv2 := [(7, .int (nI (i + 1))), (6, .int (nI k)), (5, .int (bI (fkB (M.1 136) (fun p => M.1 138 (55 * q + p)) n2 d2 dd k))), (4, .int (bI (wpB (M.1 136) (fun p => M.1 138 (55 * q + p)) n2 (k + 1)))), (3, .int (nI d2)), (2, .int (nI n2)), (0, .ref (ad 135)), (1, .int (nI q))]) [0, 2, 3, 4, 5, 6, 7, 8] rfl ?_
                              refine r_mem (M2 := (mA M 142 (mdG (emZ (M.1 142)) (M.1 136) (fun p => M.1 138 (55 * q + p)) N dd n2 d2 (k + 1) k (i + 1) k 0 0))) (by rw [mIA]; exact congrArg _ (mdG_n (by omega))) ?_
                              exact ih_i (i + 1) (by omega) (by omega)
                          ·
                            refine r_aload_n C dX8_layProduct_199 rfl 6 rfl ?_
                            refine r_iload_n C dX8_layProduct_200 rfl 7 rfl ?_
                            refine r_bipush C (nI 10) dX8_layProduct_201 (by decide) ?_
                            refine r_iload C dX8_layProduct_203 1 rfl ?_
                            refine r_iload_n C dX8_layProduct_205 rfl 5 rfl ?_
                            refine r_irem C dX8_layProduct_206 (nI_ne0 (by omega) (by omega)) ?_
                            refine r_topi (pk_rem (a := k) (d := n2) (by omega) (by omega) (by omega)) ?_
                            refine r_iadd C dX8_layProduct_207 ?_
                            refine r_topi (nI_add 10 (k % n2)) ?_
                            refine r_pcallV_i (nA := 2) C (Nat.le_of_ble_eq_true rfl) [.int (nI q), .int (nI (10 + (k % n2)))] (c_X8_other l D cs ad (mA M 142 (mdG (emZ (M.1 142)) (M.1 136) (fun p => M.1 138 (55 * q + p)) N dd n2 d2 (k + 1) k i k 0 0)) q (10 + (k % n2)) (by omega) (by omega)) (tt_V ml_X8_129 im_X8_other se_X8_other in_X8 co_X8_other) ⟨rfl, rfl⟩ ⟨rfl, by decide, by decide, by decide⟩ ⟨Nat.le_of_ble_eq_true rfl, Nat.le_of_ble_eq_true rfl⟩ (by decide) rfl rfl rfl rfl rfl (Nat.le_of_ble_eq_true rfl) dX8_layProduct_208 ?_
                            refine r_topi (w := (M.1 138 (55 * q + (10 + (k % n2))))) rfl ?_
                            refine r_iload C dX8_layProduct_211 0 rfl ?_
                            refine r_iload_n C dX8_layProduct_213 rfl 5 rfl ?_
                            refine r_irem C dX8_layProduct_214 (nI_ne0 (by omega) (by omega)) ?_
                            refine r_topi (pk_rem (a := i) (d := n2) (by omega) (by omega) (by omega)) ?_
                            refine r_pcallS_i (nA := 2) C (Nat.le_of_ble_eq_true rfl) [.int (M.1 138 (55 * q + (10 + (k % n2)))), .int (nI (i % n2))] (c_X8_has l D cs ad (mA M 142 (mdG (emZ (M.1 142)) (M.1 136) (fun p => M.1 138 (55 * q + p)) N dd n2 d2 (k + 1) k i k 0 0)) (M.1 138 (55 * q + (10 + (k % n2)))) (i % n2) ) (tt_S ml_X8_52 st_X8_has in_X8 co_X8_has) ⟨rfl, rfl⟩ ⟨rfl, by decide, by decide, by decide⟩ ⟨Nat.le_of_ble_eq_true rfl, Nat.le_of_ble_eq_true rfl⟩ rfl rfl (Nat.le_of_ble_eq_true rfl) dX8_layProduct_215 ?_
                            refine r_topi (w := bI (bt (M.1 138 (55 * q + (10 + (k % n2)))) (i % n2))) rfl ?_
                            refine r_ifB_eq C 225 dX8_layProduct_218 (by decide) (fun h218 => ?_) (fun h218 => ?_)
                            ·
                              refine r_iconst C (nI 0) dX8_layProduct_225 (by decide) ?_
                              refine r_topi (w := bI (pjB (M.1 136) (fun p => M.1 138 (55 * q + p)) n2 k i)) (bI_off (by simp [pjB, h24, h38, h56, h112, h146, h181, h196, h218])) ?_
                              refine r_istore C [(8, .int (bI (pjB (M.1 136) (fun p => M.1 138 (55 * q + p)) n2 k i))), (7, .int (nI i)), (6, .int (nI k)), (5, .int (bI (fkB (M.1 136) (fun p => M.1 138 (55 * q + p)) n2 d2 dd k))), (4, .int (bI (wpB (M.1 136) (fun p => M.1 138 (55 * q + p)) n2 (k + 1)))), (3, .int (nI d2)), (2, .int (nI n2)), (0, .ref (ad 135)), (1, .int (nI q))] dX8_layProduct_226 (by decide) rfl ?_
                              refine r_aload_n C dX8_layProduct_228 rfl 7 rfl ?_
                              refine r_get C (Cn := RX8) (T := TX8) (N := 18) (id := 135) (by decide) inw_X8 rfl rfl 12 (by decide) rfl fl_X8_28 rfl dX8_layProduct_229 ?_
                              refine r_bipush C (nI 10) dX8_layProduct_232 (by decide) ?_
                              refine r_iload C dX8_layProduct_234 2 rfl ?_
                              refine r_iadd C dX8_layProduct_236 ?_
                              refine r_topi (nI_add 10 k) ?_
                              refine r_dup2_11 C dX8_layProduct_237 rfl rfl ?_
                              refine r_iald C (id := 142) (n := 55) (a := 10 + k) (by decide) rfl (by omega) (by decide) dX8_layProduct_238 ?_
                              refine r_topi (w := (pmI (M.1 136) (fun p => M.1 138 (55 * q + p)) n2 k i)) (mdG_at emZ_z (by omega)) ?_
                              refine r_iload C dX8_layProduct_239 0 rfl ?_
                              refine r_ifB_eq C 251 dX8_layProduct_241 (by decide) (fun h241 => ?_) (fun h241 => ?_)
                              ·
                                refine r_iconst C (nI 0) dX8_layProduct_251 (by decide) ?_
                                refine r_topi (w := (if pjB (M.1 136) (fun p => M.1 138 (55 * q + p)) n2 k i = true then s1 i else nI 0)) (by simp [h24, h38, h56, h112, h146, h181, h196, h218, h241]) ?_
                                refine r_ior C dX8_layProduct_252 ?_
                                refine r_iast C (id := 142) (n := 55) (a := 10 + k) (by decide) (fun _ => rfl) (by omega) (by decide) dX8_layProduct_253 ?_
                                refine r_iinc C (nI (i + 1)) [(7, .int (nI (i + 1))), (8, .int (bI (pjB (M.1 136) (fun p => M.1 138 (55 * q + p)) n2 k i))), (6, .int (nI k)), (5, .int (bI (fkB (M.1 136) (fun p => M.1 138 (55 * q + p)) n2 d2 dd k))), (4, .int (bI (wpB (M.1 136) (fun p => M.1 138 (55 * q + p)) n2 (k + 1)))), (3, .int (nI d2)), (2, .int (nI n2)), (0, .ref (ad 135)), (1, .int (nI q))] dX8_layProduct_254 (j := 1) rfl (inc_n i 1) (by decide) rfl ?_
                                refine r_goto C 173 dX8_layProduct_257 (by decide) ?_
                                refine r_lv (lv2 := [(7, .int (nI (i + 1))), (6, .int (nI k)), (5, .int (bI (fkB (M.1 136) (fun p => M.1 138 (55 * q + p)) n2 d2 dd k))), (4, .int (bI (wpB (M.1 136) (fun p => M.1 138 (55 * q + p)) n2 (k + 1)))), (3, .int (nI d2)), (2, .int (nI n2)), (0, .ref (ad 135)), (1, .int (nI q))]) [0, 2, 3, 4, 5, 6, 7, 8] rfl ?_
                                refine r_mem (M2 := (mA M 142 (mdG (emZ (M.1 142)) (M.1 136) (fun p => M.1 138 (55 * q + p)) N dd n2 d2 (k + 1) k (i + 1) k 0 0))) (by rw [mIA]; exact congrArg _ (mdG_n (by omega))) ?_
                                exact ih_i (i + 1) (by omega) (by omega)
                              ·
                                refine r_iconst C (nI 1) dX8_layProduct_244 (by decide) ?_
                                refine r_iload C dX8_layProduct_245 1 rfl ?_
                                refine r_ishl C dX8_layProduct_247 ?_
                                refine r_topi (w := s1 i) rfl ?_
                                refine r_goto C 252 dX8_layProduct_248 (by decide) ?_
                                refine r_topi (w := (if pjB (M.1 136) (fun p => M.1 138 (55 * q + p)) n2 k i = true then s1 i else nI 0)) (by simp [h24, h38, h56, h112, h146, h181, h196, h218, h241]) ?_
                                refine r_ior C dX8_layProduct_252 ?_
                                refine r_iast C (id := 142) (n := 55) (a := 10 + k) (by decide) (fun _ => rfl) (by omega) (by decide) dX8_layProduct_253 ?_
                                refine r_iinc C (nI (i + 1)) [(7, .int (nI (i + 1))), (8, .int (bI (pjB (M.1 136) (fun p => M.1 138 (55 * q + p)) n2 k i))), (6, .int (nI k)), (5, .int (bI (fkB (M.1 136) (fun p => M.1 138 (55 * q + p)) n2 d2 dd k))), (4, .int (bI (wpB (M.1 136) (fun p => M.1 138 (55 * q + p)) n2 (k + 1)))), (3, .int (nI d2)), (2, .int (nI n2)), (0, .ref (ad 135)), (1, .int (nI q))] dX8_layProduct_254 (j := 1) rfl (inc_n i 1) (by decide) rfl ?_
                                refine r_goto C 173 dX8_layProduct_257 (by decide) ?_
                                refine r_lv (lv2 := [(7, .int (nI (i + 1))), (6, .int (nI k)), (5, .int (bI (fkB (M.1 136) (fun p => M.1 138 (55 * q + p)) n2 d2 dd k))), (4, .int (bI (wpB (M.1 136) (fun p => M.1 138 (55 * q + p)) n2 (k + 1)))), (3, .int (nI d2)), (2, .int (nI n2)), (0, .ref (ad 135)), (1, .int (nI q))]) [0, 2, 3, 4, 5, 6, 7, 8] rfl ?_
                                refine r_mem (M2 := (mA M 142 (mdG (emZ (M.1 142)) (M.1 136) (fun p => M.1 138 (55 * q + p)) N dd n2 d2 (k + 1) k (i + 1) k 0 0))) (by rw [mIA]; exact congrArg _ (mdG_n (by omega))) ?_
                                exact ih_i (i + 1) (by omega) (by omega)
                            ·
                              refine r_iconst C (nI 1) dX8_layProduct_221 (by decide) ?_
                              refine r_goto C 226 dX8_layProduct_222 (by decide) ?_
                              refine r_topi (w := bI (pjB (M.1 136) (fun p => M.1 138 (55 * q + p)) n2 k i)) (bI_on (by simp [pjB, h24, h38, h56, h112, h146, h181, h196, h218])) ?_
                              refine r_istore C [(8, .int (bI (pjB (M.1 136) (fun p => M.1 138 (55 * q + p)) n2 k i))), (7, .int (nI i)), (6, .int (nI k)), (5, .int (bI (fkB (M.1 136) (fun p => M.1 138 (55 * q + p)) n2 d2 dd k))), (4, .int (bI (wpB (M.1 136) (fun p => M.1 138 (55 * q + p)) n2 (k + 1)))), (3, .int (nI d2)), (2, .int (nI n2)), (0, .ref (ad 135)), (1, .int (nI q))] dX8_layProduct_226 (by decide) rfl ?_
                              refine r_aload_n C dX8_layProduct_228 rfl 7 rfl ?_
                              refine r_get C (Cn := RX8) (T := TX8) (N := 18) (id := 135) (by decide) inw_X8 rfl rfl 12 (by decide) rfl fl_X8_28 rfl dX8_layProduct_229 ?_
                              refine r_bipush C (nI 10) dX8_layProduct_232 (by decide) ?_
                              refine r_iload C dX8_layProduct_234 2 rfl ?_
                              refine r_iadd C dX8_layProduct_236 ?_
                              refine r_topi (nI_add 10 k) ?_
                              refine r_dup2_11 C dX8_layProduct_237 rfl rfl ?_
                              refine r_iald C (id := 142) (n := 55) (a := 10 + k) (by decide) rfl (by omega) (by decide) dX8_layProduct_238 ?_
                              refine r_topi (w := (pmI (M.1 136) (fun p => M.1 138 (55 * q + p)) n2 k i)) (mdG_at emZ_z (by omega)) ?_
                              refine r_iload C dX8_layProduct_239 0 rfl ?_
                              refine r_ifB_eq C 251 dX8_layProduct_241 (by decide) (fun h241 => ?_) (fun h241 => ?_)
                              ·
                                refine r_iconst C (nI 0) dX8_layProduct_251 (by decide) ?_
                                refine r_topi (w := (if pjB (M.1 136) (fun p => M.1 138 (55 * q + p)) n2 k i = true then s1 i else nI 0)) (by simp [h24, h38, h56, h112, h146, h181, h196, h218, h241]) ?_
                                refine r_ior C dX8_layProduct_252 ?_
                                refine r_iast C (id := 142) (n := 55) (a := 10 + k) (by decide) (fun _ => rfl) (by omega) (by decide) dX8_layProduct_253 ?_
                                refine r_iinc C (nI (i + 1)) [(7, .int (nI (i + 1))), (8, .int (bI (pjB (M.1 136) (fun p => M.1 138 (55 * q + p)) n2 k i))), (6, .int (nI k)), (5, .int (bI (fkB (M.1 136) (fun p => M.1 138 (55 * q + p)) n2 d2 dd k))), (4, .int (bI (wpB (M.1 136) (fun p => M.1 138 (55 * q + p)) n2 (k + 1)))), (3, .int (nI d2)), (2, .int (nI n2)), (0, .ref (ad 135)), (1, .int (nI q))] dX8_layProduct_254 (j := 1) rfl (inc_n i 1) (by decide) rfl ?_
                                refine r_goto C 173 dX8_layProduct_257 (by decide) ?_
                                refine r_lv (lv2 := [(7, .int (nI (i + 1))), (6, .int (nI k)), (5, .int (bI (fkB (M.1 136) (fun p => M.1 138 (55 * q + p)) n2 d2 dd k))), (4, .int (bI (wpB (M.1 136) (fun p => M.1 138 (55 * q + p)) n2 (k + 1)))), (3, .int (nI d2)), (2, .int (nI n2)), (0, .ref (ad 135)), (1, .int (nI q))]) [0, 2, 3, 4, 5, 6, 7, 8] rfl ?_
                                refine r_mem (M2 := (mA M 142 (mdG (emZ (M.1 142)) (M.1 136) (fun p => M.1 138 (55 * q + p)) N dd n2 d2 (k + 1) k (i + 1) k 0 0))) (by rw [mIA]; exact congrArg _ (mdG_n (by omega))) ?_
                                exact ih_i (i + 1) (by omega) (by omega)
                              ·
                                refine r_iconst C (nI 1) dX8_layProduct_244 (by decide) ?_
                                refine r_iload C dX8_layProduct_245 1 rfl ?_
                                refine r_ishl C dX8_layProduct_247 ?_
                                refine r_topi (w := s1 i) rfl ?_
                                refine r_goto C 252 dX8_layProduct_248 (by decide) ?_
                                refine r_topi (w := (if pjB (M.1 136) (fun p => M.1 138 (55 * q + p)) n2 k i = true then s1 i else nI 0)) (by simp [h24, h38, h56, h112, h146, h181, h196, h218, h241]) ?_
                                refine r_ior C dX8_layProduct_252 ?_
                                refine r_iast C (id := 142) (n := 55) (a := 10 + k) (by decide) (fun _ => rfl) (by omega) (by decide) dX8_layProduct_253 ?_
                                refine r_iinc C (nI (i + 1)) [(7, .int (nI (i + 1))), (8, .int (bI (pjB (M.1 136) (fun p => M.1 138 (55 * q + p)) n2 k i))), (6, .int (nI k)), (5, .int (bI (fkB (M.1 136) (fun p => M.1 138 (55 * q + p)) n2 d2 dd k))), (4, .int (bI (wpB (M.1 136) (fun p => M.1 138 (55 * q + p)) n2 (k + 1)))), (3, .int (nI d2)), (2, .int (nI n2)), (0, .ref (ad 135)), (1, .int (nI q))] dX8_layProduct_254 (j := 1) rfl (inc_n i 1) (by decide) rfl ?_
                                refine r_goto C 173 dX8_layProduct_257 (by decide) ?_
                                refine r_lv (lv2 := [(7, .int (nI (i + 1))), (6, .int (nI k)), (5, .int (bI (fkB (M.1 136) (fun p => M.1 138 (55 * q + p)) n2 d2 dd k))), (4, .int (bI (wpB (M.1 136) (fun p => M.1 138 (55 * q + p)) n2 (k + 1)))), (3, .int (nI d2)), (2, .int (nI n2)), (0, .ref (ad 135)), (1, .int (nI q))]) [0, 2, 3, 4, 5, 6, 7, 8] rfl ?_
                                refine r_mem (M2 := (mA M 142 (mdG (emZ (M.1 142)) (M.1 136) (fun p => M.1 138 (55 * q + p)) N dd n2 d2 (k + 1) k (i + 1) k 0 0))) (by rw [mIA]; exact congrArg _ (mdG_n (by omega))) ?_
                                exact ih_i (i + 1) (by omega) (by omega)
                    refine r_lv (lv2 := [(7, .int (nI 0)), (6, .int (nI k)), (5, .int (bI (fkB (M.1 136) (fun p => M.1 138 (55 * q + p)) n2 d2 dd k))), (4, .int (bI (wpB (M.1 136) (fun p => M.1 138 (55 * q + p)) n2 (k + 1)))), (3, .int (nI d2)), (2, .int (nI n2)), (0, .ref (ad 135)), (1, .int (nI q))]) [0, 2, 3, 1, 4, 5, 6, 7] rfl ?_
                    refine r_mem (M2 := (mA M 142 (mdG (emZ (M.1 142)) (M.1 136) (fun p => M.1 138 (55 * q + p)) N dd n2 d2 (k + 1) k 0 k 0 0))) (by rw [mIA]; exact congrArg _ (mdG_w (by omega))) ?_
                    exact Li (N + 1) 0 (by omega) (by omega)
                  ·
                    refine r_aload_n C dX8_layProduct_149 rfl 5 rfl ?_
                    refine r_get C (Cn := RX8) (T := TX8) (N := 18) (id := 135) (by decide) inw_X8 rfl rfl 12 (by decide) rfl fl_X8_28 rfl dX8_layProduct_150 ?_
                    refine r_iconst C (nI 2) dX8_layProduct_153 (by decide) ?_
                    refine r_iload C dX8_layProduct_154 0 rfl ?_
                    refine r_iadd C dX8_layProduct_156 ?_
                    refine r_topi (nI_add 2 k) ?_
                    refine r_iald C (id := 142) (n := 55) (a := 2 + k) (by decide) rfl (by omega) (by decide) dX8_layProduct_157 ?_
                    refine r_topi (w := ((M.1 136 (2 + (k / n2))) * (M.1 138 (55 * q + (2 + (k % n2)))))) (by simp [mI, mJ, mA, upd, vp_updL]) ?_
                    refine r_topi (w := (pwI (M.1 136) (fun p => M.1 138 (55 * q + p)) n2 k)) (rfl) ?_
                    refine r_bipush C (nI 9) dX8_layProduct_158 (by decide) ?_
                    refine r_icmp_gt C 167 dX8_layProduct_160 (by decide) (fun h160 => ?_) (fun h160 => ?_)
                    ·
                      refine r_iconst C (nI 0) dX8_layProduct_167 (by decide) ?_
                      refine r_topi (w := bI (wpB (M.1 136) (fun p => M.1 138 (55 * q + p)) n2 (k + 1))) (bI_off (by simp [wpB, h24, h38, h56, h112, h146, h160])) ?_
                      refine r_istore C [(4, .int (bI (wpB (M.1 136) (fun p => M.1 138 (55 * q + p)) n2 (k + 1)))), (6, .int (nI k)), (5, .int (bI (fkB (M.1 136) (fun p => M.1 138 (55 * q + p)) n2 d2 dd k))), (3, .int (nI d2)), (2, .int (nI n2)), (0, .ref (ad 135)), (1, .int (nI q))] dX8_layProduct_168 (by decide) rfl ?_
                      refine r_iconst C (nI 0) dX8_layProduct_170 (by decide) ?_
                      refine r_istore C [(7, .int (nI 0)), (4, .int (bI (wpB (M.1 136) (fun p => M.1 138 (55 * q + p)) n2 (k + 1)))), (6, .int (nI k)), (5, .int (bI (fkB (M.1 136) (fun p => M.1 138 (55 * q + p)) n2 d2 dd k))), (3, .int (nI d2)), (2, .int (nI n2)), (0, .ref (ad 135)), (1, .int (nI q))] dX8_layProduct_171 (by decide) rfl ?_
                      have Li : ∀ (f_i i : Nat), N + 1 ≤ i + f_i → i ≤ N → VV l D cs ad 9 κ 0 (mA M 142 (mdG (emZ (M.1 142)) (M.1 136) (fun p => M.1 138 (55 * q + p)) N dd n2 d2 (k + 1) k i k 0 0)) 173 [(7, .int (nI i)), (6, .int (nI k)), (5, .int (bI (fkB (M.1 136) (fun p => M.1 138 (55 * q + p)) n2 d2 dd k))), (4, .int (bI (wpB (M.1 136) (fun p => M.1 138 (55 * q + p)) n2 (k + 1)))), (3, .int (nI d2)), (2, .int (nI n2)), (0, .ref (ad 135)), (1, .int (nI q))] [] := by
                        intro f_i
                        induction f_i with
                        | zero => intro i hk1_i hk2_i; exact absurd hk1_i (by omega)
                        | succ f_i ih_i =>
                          intro i hk1_i hk2_i
                          refine r_iload C dX8_layProduct_173 0 rfl ?_
                          refine r_aload_n C dX8_layProduct_175 rfl 6 rfl ?_
                          refine r_get C (Cn := RX8) (T := TX8) (N := 18) (id := 135) (by decide) inw_X8 rfl rfl 12 (by decide) rfl fl_X8_28 rfl dX8_layProduct_176 ?_
                          refine r_iconst C (nI 0) dX8_layProduct_179 (by decide) ?_
                          refine r_iald C (id := 142) (n := 55) (a := 0) (by decide) rfl (by decide) (by decide) dX8_layProduct_180 ?_
                          refine r_topi (w := nI N) (rfl) ?_
                          refine r_icmpN_ge C 260 dX8_layProduct_181 (by decide) (by omega) (by omega) (fun h181 => ?_) (fun h181 => ?_)
                          ·
                            have hk9 : N = i := by omega
                            subst hk9
                            refine r_iconst C (nI 0) dX8_layProduct_260 (by decide) ?_
                            refine r_istore C [(7, .int (nI 0)), (6, .int (nI k)), (5, .int (bI (fkB (M.1 136) (fun p => M.1 138 (55 * q + p)) n2 d2 dd k))), (4, .int (bI (wpB (M.1 136) (fun p => M.1 138 (55 * q + p)) n2 (k + 1)))), (3, .int (nI d2)), (2, .int (nI n2)), (0, .ref (ad 135)), (1, .int (nI q))] dX8_layProduct_261 (by decide) rfl ?_
                            have Lp9 : ∀ (f_p p : Nat), dd + 1 ≤ p + f_p → p ≤ dd → VV l D cs ad 9 κ 0 (mA M 142 (mdG (emZ (M.1 142)) (M.1 136) (fun p => M.1 138 (55 * q + p)) N dd n2 d2 (k + 1) (k + 1) 0 k p 0)) 263 [(7, .int (nI p)), (6, .int (nI k)), (5, .int (bI (fpB (M.1 136) (fun p => M.1 138 (55 * q + p)) n2 d2 k (fkB (M.1 136) (fun p => M.1 138 (55 * q + p)) n2 d2 dd k) p))), (4, .int (bI (wpB (M.1 136) (fun p => M.1 138 (55 * q + p)) n2 (k + 1)))), (3, .int (nI d2)), (2, .int (nI n2)), (0, .ref (ad 135)), (1, .int (nI q))] [] := by
                              intro f_p
                              induction f_p with
                              | zero => intro p hk1_p hk2_p; exact absurd hk1_p (by omega)
                              | succ f_p ih_p =>
                                intro p hk1_p hk2_p
                                refine r_iload C dX8_layProduct_263 0 rfl ?_
                                refine r_aload_n C dX8_layProduct_265 rfl 6 rfl ?_
                                refine r_get C (Cn := RX8) (T := TX8) (N := 18) (id := 135) (by decide) inw_X8 rfl rfl 12 (by decide) rfl fl_X8_28 rfl dX8_layProduct_266 ?_
                                refine r_iconst C (nI 1) dX8_layProduct_269 (by decide) ?_
                                refine r_iald C (id := 142) (n := 55) (a := 1) (by decide) rfl (by decide) (by decide) dX8_layProduct_270 ?_
                                refine r_topi (w := nI dd) (rfl) ?_
                                refine r_icmpN_ge C 352 dX8_layProduct_271 (by decide) (by omega) (by omega) (fun h271 => ?_) (fun h271 => ?_)
                                ·
                                  have hk9 : dd = p := by omega
                                  subst hk9
                                  refine r_iinc C (nI (k + 1)) [(6, .int (nI (k + 1))), (7, .int (nI dd)), (5, .int (bI (fpB (M.1 136) (fun p => M.1 138 (55 * q + p)) n2 d2 k (fkB (M.1 136) (fun p => M.1 138 (55 * q + p)) n2 d2 dd k) dd))), (4, .int (bI (wpB (M.1 136) (fun p => M.1 138 (55 * q + p)) n2 (k + 1)))), (3, .int (nI d2)), (2, .int (nI n2)), (0, .ref (ad 135)), (1, .int (nI q))] dX8_layProduct_352 (j := 1) rfl (inc_n k 1) (by decide) rfl ?_
                                  refine r_goto C 104 dX8_layProduct_355 (by decide) ?_
                                  refine r_lv (lv2 := [(6, .int (nI (k + 1))), (5, .int (bI (fkB (M.1 136) (fun p => M.1 138 (55 * q + p)) n2 d2 dd (k + 1)))), (4, .int (bI (wpB (M.1 136) (fun p => M.1 138 (55 * q + p)) n2 (k + 1)))), (3, .int (nI d2)), (2, .int (nI n2)), (0, .ref (ad 135)), (1, .int (nI q))]) [0, 2, 3, 4, 5, 6, 7] rfl ?_
                                  refine r_mem (M2 := (mA M 142 (mdG (emZ (M.1 142)) (M.1 136) (fun p => M.1 138 (55 * q + p)) N dd n2 d2 (k + 1) (k + 1) 0 (k + 1) 0 0))) (by rw [mdG_L h4]) ?_
                                  exact ih (k + 1) (by omega) (by omega)
                                ·
                                  have q3 : p / d2 < d := hqd p (by omega)
                                  have r3 : p % d2 < d2 := Nat.mod_lt _ (by omega)
                                  refine r_aload_n C dX8_layProduct_274 rfl 6 rfl ?_
                                  refine r_get C (Cn := RX8) (T := TX8) (N := 18) (id := 135) (by decide) inw_X8 rfl rfl 0 (by decide) rfl fl_X8_7 rfl dX8_layProduct_275 ?_
                                  refine r_iload C dX8_layProduct_278 1 rfl ?_
                                  refine r_iload_n C dX8_layProduct_280 rfl 5 rfl ?_
                                  refine r_idiv C dX8_layProduct_281 (nI_ne0 (by omega) (by omega)) ?_
                                  refine r_topi (pk_div (a := k) (d := n2) (by omega) (by omega) (by omega)) ?_
                                  refine r_pcallS_i (nA := 1) C (Nat.le_of_ble_eq_true rfl) [.int (nI (k / n2))] (c_X8_labelAt l D cs ad (mA M 142 (mdG (emZ (M.1 142)) (M.1 136) (fun p => M.1 138 (55 * q + p)) N dd n2 d2 (k + 1) (k + 1) 0 k p 0)) (k / n2) ) (tt_S ml_X8_56 st_X8_labelAt in_X8 co_X8_labelAt) ⟨rfl, rfl⟩ ⟨rfl, by decide, by decide, by decide⟩ ⟨Nat.le_of_ble_eq_true rfl, Nat.le_of_ble_eq_true rfl⟩ rfl rfl (Nat.le_of_ble_eq_true rfl) dX8_layProduct_282 ?_
                                  refine r_topi (w := nI (18 + 4 * (k / n2))) rfl ?_
                                  refine r_iload C dX8_layProduct_285 0 rfl ?_
                                  refine r_iload_n C dX8_layProduct_287 rfl 4 rfl ?_
                                  refine r_idiv C dX8_layProduct_288 (nI_ne0 (by omega) (by omega)) ?_
                                  refine r_topi (pk_div (a := p) (d := d2) (by omega) (by omega) (by omega)) ?_
                                  refine r_iadd C dX8_layProduct_289 ?_
                                  refine r_topi (nI_add (18 + 4 * (k / n2)) (p / d2)) ?_
                                  refine r_iald C (id := 136) (n := 55) (a := (18 + 4 * (k / n2)) + (p / d2)) (by decide) rfl (by omega) (by decide) dX8_layProduct_290 ?_
                                  refine r_topi (w := (M.1 136 ((18 + 4 * (k / n2)) + (p / d2)))) (rfl) ?_
                                  refine r_aload_n C dX8_layProduct_291 rfl 6 rfl ?_
                                  refine r_iload_n C dX8_layProduct_292 rfl 7 rfl ?_
                                  refine r_iload C dX8_layProduct_293 1 rfl ?_
                                  refine r_iload_n C dX8_layProduct_295 rfl 5 rfl ?_
                                  refine r_irem C dX8_layProduct_296 (nI_ne0 (by omega) (by omega)) ?_
                                  refine r_topi (pk_rem (a := k) (d := n2) (by omega) (by omega) (by omega)) ?_
                                  refine r_pcallS_i (nA := 1) C (Nat.le_of_ble_eq_true rfl) [.int (nI (k % n2))] (c_X8_labelAt l D cs ad (mA M 142 (mdG (emZ (M.1 142)) (M.1 136) (fun p => M.1 138 (55 * q + p)) N dd n2 d2 (k + 1) (k + 1) 0 k p 0)) (k % n2) ) (tt_S ml_X8_56 st_X8_labelAt in_X8 co_X8_labelAt) ⟨rfl, rfl⟩ ⟨rfl, by decide, by decide, by decide⟩ ⟨Nat.le_of_ble_eq_true rfl, Nat.le_of_ble_eq_true rfl⟩ rfl rfl (Nat.le_of_ble_eq_true rfl) dX8_layProduct_297 ?_
                                  refine r_topi (w := nI (18 + 4 * (k % n2))) rfl ?_
                                  refine r_iload C dX8_layProduct_300 0 rfl ?_
                                  refine r_iload_n C dX8_layProduct_302 rfl 4 rfl ?_
                                  refine r_irem C dX8_layProduct_303 (nI_ne0 (by omega) (by omega)) ?_
                                  refine r_topi (pk_rem (a := p) (d := d2) (by omega) (by omega) (by omega)) ?_
                                  refine r_iadd C dX8_layProduct_304 ?_
                                  refine r_topi (nI_add (18 + 4 * (k % n2)) (p % d2)) ?_
                                  refine r_pcallV_i (nA := 2) C (Nat.le_of_ble_eq_true rfl) [.int (nI q), .int (nI ((18 + 4 * (k % n2)) + (p % d2)))] (c_X8_other l D cs ad (mA M 142 (mdG (emZ (M.1 142)) (M.1 136) (fun p => M.1 138 (55 * q + p)) N dd n2 d2 (k + 1) (k + 1) 0 k p 0)) q ((18 + 4 * (k % n2)) + (p % d2)) (by omega) (by omega)) (tt_V ml_X8_129 im_X8_other se_X8_other in_X8 co_X8_other) ⟨rfl, rfl⟩ ⟨rfl, by decide, by decide, by decide⟩ ⟨Nat.le_of_ble_eq_true rfl, Nat.le_of_ble_eq_true rfl⟩ (by decide) rfl rfl rfl rfl rfl (Nat.le_of_ble_eq_true rfl) dX8_layProduct_305 ?_
                                  refine r_topi (w := (M.1 138 (55 * q + ((18 + 4 * (k % n2)) + (p % d2))))) rfl ?_
                                  refine r_imul C dX8_layProduct_308 ?_
                                  refine r_topi (w := (plI (M.1 136) (fun p => M.1 138 (55 * q + p)) n2 d2 k p)) (rfl) ?_
                                  refine r_istore C [(8, .int (plI (M.1 136) (fun p => M.1 138 (55 * q + p)) n2 d2 k p)), (7, .int (nI p)), (6, .int (nI k)), (5, .int (bI (fpB (M.1 136) (fun p => M.1 138 (55 * q + p)) n2 d2 k (fkB (M.1 136) (fun p => M.1 138 (55 * q + p)) n2 d2 dd k) p))), (4, .int (bI (wpB (M.1 136) (fun p => M.1 138 (55 * q + p)) n2 (k + 1)))), (3, .int (nI d2)), (2, .int (nI n2)), (0, .ref (ad 135)), (1, .int (nI q))] dX8_layProduct_309 (by decide) rfl ?_
                                  refine r_aload_n C dX8_layProduct_311 rfl 7 rfl ?_
                                  refine r_get C (Cn := RX8) (T := TX8) (N := 18) (id := 135) (by decide) inw_X8 rfl rfl 12 (by decide) rfl fl_X8_28 rfl dX8_layProduct_312 ?_
                                  refine r_iload C dX8_layProduct_315 2 rfl ?_
                                  refine r_pcallS_i (nA := 1) C (Nat.le_of_ble_eq_true rfl) [.int (nI k)] (c_X8_labelAt l D cs ad (mA M 142 (mdG (emZ (M.1 142)) (M.1 136) (fun p => M.1 138 (55 * q + p)) N dd n2 d2 (k + 1) (k + 1) 0 k p 0)) k ) (tt_S ml_X8_56 st_X8_labelAt in_X8 co_X8_labelAt) ⟨rfl, rfl⟩ ⟨rfl, by decide, by decide, by decide⟩ ⟨Nat.le_of_ble_eq_true rfl, Nat.le_of_ble_eq_true rfl⟩ rfl rfl (Nat.le_of_ble_eq_true rfl) dX8_layProduct_317 ?_
                                  refine r_topi (w := nI (18 + 4 * k)) rfl ?_
                                  refine r_iload C dX8_layProduct_320 1 rfl ?_
                                  refine r_iadd C dX8_layProduct_322 ?_
                                  refine r_topi (nI_add (18 + 4 * k) p) ?_
                                  refine r_iload C dX8_layProduct_323 0 rfl ?_
                                  refine r_iast C (id := 142) (n := 55) (a := (18 + 4 * k) + p) (by decide) (fun _ => rfl) (by omega) (by decide) dX8_layProduct_325 ?_
                                  refine r_iload C dX8_layProduct_326 3 rfl ?_
                                  refine r_ifB_eq C 343 dX8_layProduct_328 (by decide) (fun h328 => ?_) (fun h328 => ?_)
                                  ·
                                    refine r_iconst C (nI 0) dX8_layProduct_343 (by decide) ?_
                                    refine r_topi (w := bI (fpB (M.1 136) (fun p => M.1 138 (55 * q + p)) n2 d2 k (fkB (M.1 136) (fun p => M.1 138 (55 * q + p)) n2 d2 dd k) (p + 1))) (bI_off (by simp [fpB, h24, h38, h56, h112, h146, h160, h181, h271, h328])) ?_
                                    refine r_istore C [(5, .int (bI (fpB (M.1 136) (fun p => M.1 138 (55 * q + p)) n2 d2 k (fkB (M.1 136) (fun p => M.1 138 (55 * q + p)) n2 d2 dd k) (p + 1)))), (8, .int (plI (M.1 136) (fun p => M.1 138 (55 * q + p)) n2 d2 k p)), (7, .int (nI p)), (6, .int (nI k)), (4, .int (bI (wpB (M.1 136) (fun p => M.1 138 (55 * q + p)) n2 (k + 1)))), (3, .int (nI d2)), (2, .int (nI n2)), (0, .ref (ad 135)), (1, .int (nI q))] dX8_layProduct_344 (by decide) rfl ?_
                                    refine r_iinc C (nI (p + 1)) [(7, .int (nI (p + 1))), (5, .int (bI (fpB (M.1 136) (fun p => M.1 138 (55 * q + p)) n2 d2 k (fkB (M.1 136) (fun p => M.1 138 (55 * q + p)) n2 d2 dd k) (p + 1)))), (8, .int (plI (M.1 136) (fun p => M.1 138 (55 * q + p)) n2 d2 k p)), (6, .int (nI k)), (4, .int (bI (wpB (M.1 136) (fun p => M.1 138 (55 * q + p)) n2 (k + 1)))), (3, .int (nI d2)), (2, .int (nI n2)), (0, .ref (ad 135)), (1, .int (nI q))] dX8_layProduct_346 (j := 2) rfl (inc_n p 1) (by decide) rfl ?_
                                    refine r_goto C 263 dX8_layProduct_349 (by decide) ?_
                                    refine r_lv (lv2 := [(7, .int (nI (p + 1))), (6, .int (nI k)), (5, .int (bI (fpB (M.1 136) (fun p => M.1 138 (55 * q + p)) n2 d2 k (fkB (M.1 136) (fun p => M.1 138 (55 * q + p)) n2 d2 dd k) (p + 1)))), (4, .int (bI (wpB (M.1 136) (fun p => M.1 138 (55 * q + p)) n2 (k + 1)))), (3, .int (nI d2)), (2, .int (nI n2)), (0, .ref (ad 135)), (1, .int (nI q))]) [0, 3, 1, 4, 5, 6, 7, 8] rfl ?_
                                    refine r_mem (M2 := (mA M 142 (mdG (emZ (M.1 142)) (M.1 136) (fun p => M.1 138 (55 * q + p)) N dd n2 d2 (k + 1) (k + 1) 0 k (p + 1) 0))) (by rw [mIA]; exact congrArg _ (mdG_l (by omega) (by omega))) ?_
                                    exact ih_p (p + 1) (by omega) (by omega)
                                  ·
                                    refine r_iload C dX8_layProduct_331 0 rfl ?_
                                    refine r_pcallS_i (nA := 1) C (Nat.le_of_ble_eq_true rfl) [.int (plI (M.1 136) (fun p => M.1 138 (55 * q + p)) n2 d2 k p)] (c_X8_isNumber l D cs ad (mI (mA M 142 (mdG (emZ (M.1 142)) (M.1 136) (fun p => M.1 138 (55 * q + p)) N dd n2 d2 (k + 1) (k + 1) 0 k p 0)) 142 ((18 + 4 * k) + p) (plI (M.1 136) (fun p => M.1 138 (55 * q + p)) n2 d2 k p)) (plI (M.1 136) (fun p => M.1 138 (55 * q + p)) n2 d2 k p) ) (tt_S ml_X8_132 st_X8_isNumber in_X8 co_X8_isNumber) ⟨rfl, rfl⟩ ⟨rfl, by decide, by decide, by decide⟩ ⟨Nat.le_of_ble_eq_true rfl, Nat.le_of_ble_eq_true rfl⟩ rfl rfl (Nat.le_of_ble_eq_true rfl) dX8_layProduct_333 ?_
                                    refine r_topi (w := bI (wit (plI (M.1 136) (fun p => M.1 138 (55 * q + p)) n2 d2 k p) (-9) (nI 9))) rfl ?_
                                    refine r_ifB_eq C 343 dX8_layProduct_336 (by decide) (fun h336 => ?_) (fun h336 => ?_)
                                    ·
                                      refine r_iconst C (nI 0) dX8_layProduct_343 (by decide) ?_
                                      refine r_topi (w := bI (fpB (M.1 136) (fun p => M.1 138 (55 * q + p)) n2 d2 k (fkB (M.1 136) (fun p => M.1 138 (55 * q + p)) n2 d2 dd k) (p + 1))) (bI_off (by simp [fpB, h24, h38, h56, h112, h146, h160, h181, h271, h328, h336])) ?_
                                      refine r_istore C [(5, .int (bI (fpB (M.1 136) (fun p => M.1 138 (55 * q + p)) n2 d2 k (fkB (M.1 136) (fun p => M.1 138 (55 * q + p)) n2 d2 dd k) (p + 1)))), (8, .int (plI (M.1 136) (fun p => M.1 138 (55 * q + p)) n2 d2 k p)), (7, .int (nI p)), (6, .int (nI k)), (4, .int (bI (wpB (M.1 136) (fun p => M.1 138 (55 * q + p)) n2 (k + 1)))), (3, .int (nI d2)), (2, .int (nI n2)), (0, .ref (ad 135)), (1, .int (nI q))] dX8_layProduct_344 (by decide) rfl ?_
                                      refine r_iinc C (nI (p + 1)) [(7, .int (nI (p + 1))), (5, .int (bI (fpB (M.1 136) (fun p => M.1 138 (55 * q + p)) n2 d2 k (fkB (M.1 136) (fun p => M.1 138 (55 * q + p)) n2 d2 dd k) (p + 1)))), (8, .int (plI (M.1 136) (fun p => M.1 138 (55 * q + p)) n2 d2 k p)), (6, .int (nI k)), (4, .int (bI (wpB (M.1 136) (fun p => M.1 138 (55 * q + p)) n2 (k + 1)))), (3, .int (nI d2)), (2, .int (nI n2)), (0, .ref (ad 135)), (1, .int (nI q))] dX8_layProduct_346 (j := 2) rfl (inc_n p 1) (by decide) rfl ?_
                                      refine r_goto C 263 dX8_layProduct_349 (by decide) ?_
                                      refine r_lv (lv2 := [(7, .int (nI (p + 1))), (6, .int (nI k)), (5, .int (bI (fpB (M.1 136) (fun p => M.1 138 (55 * q + p)) n2 d2 k (fkB (M.1 136) (fun p => M.1 138 (55 * q + p)) n2 d2 dd k) (p + 1)))), (4, .int (bI (wpB (M.1 136) (fun p => M.1 138 (55 * q + p)) n2 (k + 1)))), (3, .int (nI d2)), (2, .int (nI n2)), (0, .ref (ad 135)), (1, .int (nI q))]) [0, 3, 1, 4, 5, 6, 7, 8] rfl ?_
                                      refine r_mem (M2 := (mA M 142 (mdG (emZ (M.1 142)) (M.1 136) (fun p => M.1 138 (55 * q + p)) N dd n2 d2 (k + 1) (k + 1) 0 k (p + 1) 0))) (by rw [mIA]; exact congrArg _ (mdG_l (by omega) (by omega))) ?_
                                      exact ih_p (p + 1) (by omega) (by omega)
                                    ·
                                      refine r_iconst C (nI 1) dX8_layProduct_339 (by decide) ?_
                                      refine r_goto C 344 dX8_layProduct_340 (by decide) ?_
                                      refine r_topi (w := bI (fpB (M.1 136) (fun p => M.1 138 (55 * q + p)) n2 d2 k (fkB (M.1 136) (fun p => M.1 138 (55 * q + p)) n2 d2 dd k) (p + 1))) (bI_on (by simp [fpB, h24, h38, h56, h112, h146, h160, h181, h271, h328, h336])) ?_
                                      refine r_istore C [(5, .int (bI (fpB (M.1 136) (fun p => M.1 138 (55 * q + p)) n2 d2 k (fkB (M.1 136) (fun p => M.1 138 (55 * q + p)) n2 d2 dd k) (p + 1)))), (8, .int (plI (M.1 136) (fun p => M.1 138 (55 * q + p)) n2 d2 k p)), (7, .int (nI p)), (6, .int (nI k)), (4, .int (bI (wpB (M.1 136) (fun p => M.1 138 (55 * q + p)) n2 (k + 1)))), (3, .int (nI d2)), (2, .int (nI n2)), (0, .ref (ad 135)), (1, .int (nI q))] dX8_layProduct_344 (by decide) rfl ?_
                                      refine r_iinc C (nI (p + 1)) [(7, .int (nI (p + 1))), (5, .int (bI (fpB (M.1 136) (fun p => M.1 138 (55 * q + p)) n2 d2 k (fkB (M.1 136) (fun p => M.1 138 (55 * q + p)) n2 d2 dd k) (p + 1)))), (8, .int (plI (M.1 136) (fun p => M.1 138 (55 * q + p)) n2 d2 k p)), (6, .int (nI k)), (4, .int (bI (wpB (M.1 136) (fun p => M.1 138 (55 * q + p)) n2 (k + 1)))), (3, .int (nI d2)), (2, .int (nI n2)), (0, .ref (ad 135)), (1, .int (nI q))] dX8_layProduct_346 (j := 2) rfl (inc_n p 1) (by decide) rfl ?_
                                      refine r_goto C 263 dX8_layProduct_349 (by decide) ?_
                                      refine r_lv (lv2 := [(7, .int (nI (p + 1))), (6, .int (nI k)), (5, .int (bI (fpB (M.1 136) (fun p => M.1 138 (55 * q + p)) n2 d2 k (fkB (M.1 136) (fun p => M.1 138 (55 * q + p)) n2 d2 dd k) (p + 1)))), (4, .int (bI (wpB (M.1 136) (fun p => M.1 138 (55 * q + p)) n2 (k + 1)))), (3, .int (nI d2)), (2, .int (nI n2)), (0, .ref (ad 135)), (1, .int (nI q))]) [0, 3, 1, 4, 5, 6, 7, 8] rfl ?_
                                      refine r_mem (M2 := (mA M 142 (mdG (emZ (M.1 142)) (M.1 136) (fun p => M.1 138 (55 * q + p)) N dd n2 d2 (k + 1) (k + 1) 0 k (p + 1) 0))) (by rw [mIA]; exact congrArg _ (mdG_l (by omega) (by omega))) ?_
                                      exact ih_p (p + 1) (by omega) (by omega)
                            refine r_lv (lv2 := [(7, .int (nI 0)), (6, .int (nI k)), (5, .int (bI (fpB (M.1 136) (fun p => M.1 138 (55 * q + p)) n2 d2 k (fkB (M.1 136) (fun p => M.1 138 (55 * q + p)) n2 d2 dd k) 0))), (4, .int (bI (wpB (M.1 136) (fun p => M.1 138 (55 * q + p)) n2 (k + 1)))), (3, .int (nI d2)), (2, .int (nI n2)), (0, .ref (ad 135)), (1, .int (nI q))]) [0, 1, 2, 3, 4, 5, 6, 7] rfl ?_
                            refine r_mem (M2 := (mA M 142 (mdG (emZ (M.1 142)) (M.1 136) (fun p => M.1 138 (55 * q + p)) N dd n2 d2 (k + 1) (k + 1) 0 k 0 0))) (by rw [mdG_N (by omega) hNp]) ?_
                            exact Lp9 (dd + 1) 0 (by omega) (by omega)
                          ·
                            have q2 : i / n2 < n := hqn i (by omega)
                            have r2 : i % n2 < n2 := Nat.mod_lt _ (by omega)
                            refine r_aload_n C dX8_layProduct_184 rfl 6 rfl ?_
                            refine r_iload C dX8_layProduct_185 1 rfl ?_
                            refine r_iload_n C dX8_layProduct_187 rfl 5 rfl ?_
                            refine r_idiv C dX8_layProduct_188 (nI_ne0 (by omega) (by omega)) ?_
                            refine r_topi (pk_div (a := k) (d := n2) (by omega) (by omega) (by omega)) ?_
                            refine r_iload C dX8_layProduct_189 0 rfl ?_
                            refine r_iload_n C dX8_layProduct_191 rfl 5 rfl ?_
                            refine r_idiv C dX8_layProduct_192 (nI_ne0 (by omega) (by omega)) ?_
                            refine r_topi (pk_div (a := i) (d := n2) (by omega) (by omega) (by omega)) ?_
                            refine r_pcallV_i (nA := 2) C (Nat.le_of_ble_eq_true rfl) [.int (nI (k / n2)), .int (nI (i / n2))] (c_X8_areJoined l D cs ad (mA M 142 (mdG (emZ (M.1 142)) (M.1 136) (fun p => M.1 138 (55 * q + p)) N dd n2 d2 (k + 1) k i k 0 0)) (k / n2) (i / n2) (by omega)) (tt_V ml_X8_67 im_X8_areJoined se_X8_areJoined in_X8 co_X8_areJoined) ⟨rfl, rfl⟩ ⟨rfl, by decide, by decide, by decide⟩ ⟨Nat.le_of_ble_eq_true rfl, Nat.le_of_ble_eq_true rfl⟩ (by decide) rfl rfl rfl rfl rfl (Nat.le_of_ble_eq_true rfl) dX8_layProduct_193 ?_
                            refine r_topi (w := bI (bt (M.1 136 (10 + (k / n2))) (i / n2))) rfl ?_
                            refine r_ifB_ne C 221 dX8_layProduct_196 (by decide) (fun h196 => ?_) (fun h196 => ?_)
                            ·
                              refine r_iconst C (nI 1) dX8_layProduct_221 (by decide) ?_
                              refine r_goto C 226 dX8_layProduct_222 (by decide) ?_
                              refine r_topi (w := bI (pjB (M.1 136) (fun p => M.1 138 (55 * q + p)) n2 k i)) (bI_on (by simp [pjB, h24, h38, h56, h112, h146, h160, h181, h196])) ?_
                              refine r_istore C [(8, .int (bI (pjB (M.1 136) (fun p => M.1 138 (55 * q + p)) n2 k i))), (7, .int (nI i)), (6, .int (nI k)), (5, .int (bI (fkB (M.1 136) (fun p => M.1 138 (55 * q + p)) n2 d2 dd k))), (4, .int (bI (wpB (M.1 136) (fun p => M.1 138 (55 * q + p)) n2 (k + 1)))), (3, .int (nI d2)), (2, .int (nI n2)), (0, .ref (ad 135)), (1, .int (nI q))] dX8_layProduct_226 (by decide) rfl ?_
                              refine r_aload_n C dX8_layProduct_228 rfl 7 rfl ?_
                              refine r_get C (Cn := RX8) (T := TX8) (N := 18) (id := 135) (by decide) inw_X8 rfl rfl 12 (by decide) rfl fl_X8_28 rfl dX8_layProduct_229 ?_
                              refine r_bipush C (nI 10) dX8_layProduct_232 (by decide) ?_
                              refine r_iload C dX8_layProduct_234 2 rfl ?_
                              refine r_iadd C dX8_layProduct_236 ?_
                              refine r_topi (nI_add 10 k) ?_
                              refine r_dup2_11 C dX8_layProduct_237 rfl rfl ?_
                              refine r_iald C (id := 142) (n := 55) (a := 10 + k) (by decide) rfl (by omega) (by decide) dX8_layProduct_238 ?_
                              refine r_topi (w := (pmI (M.1 136) (fun p => M.1 138 (55 * q + p)) n2 k i)) (mdG_at emZ_z (by omega)) ?_
                              refine r_iload C dX8_layProduct_239 0 rfl ?_
                              refine r_ifB_eq C 251 dX8_layProduct_241 (by decide) (fun h241 => ?_) (fun h241 => ?_)
                              ·
                                refine r_iconst C (nI 0) dX8_layProduct_251 (by decide) ?_
                                refine r_topi (w := (if pjB (M.1 136) (fun p => M.1 138 (55 * q + p)) n2 k i = true then s1 i else nI 0)) (by simp [h24, h38, h56, h112, h146, h160, h181, h196, h241]) ?_
                                refine r_ior C dX8_layProduct_252 ?_
                                refine r_iast C (id := 142) (n := 55) (a := 10 + k) (by decide) (fun _ => rfl) (by omega) (by decide) dX8_layProduct_253 ?_
                                refine r_iinc C (nI (i + 1)) [(7, .int (nI (i + 1))), (8, .int (bI (pjB (M.1 136) (fun p => M.1 138 (55 * q + p)) n2 k i))), (6, .int (nI k)), (5, .int (bI (fkB (M.1 136) (fun p => M.1 138 (55 * q + p)) n2 d2 dd k))), (4, .int (bI (wpB (M.1 136) (fun p => M.1 138 (55 * q + p)) n2 (k + 1)))), (3, .int (nI d2)), (2, .int (nI n2)), (0, .ref (ad 135)), (1, .int (nI q))] dX8_layProduct_254 (j := 1) rfl (inc_n i 1) (by decide) rfl ?_
                                refine r_goto C 173 dX8_layProduct_257 (by decide) ?_
                                refine r_lv (lv2 := [(7, .int (nI (i + 1))), (6, .int (nI k)), (5, .int (bI (fkB (M.1 136) (fun p => M.1 138 (55 * q + p)) n2 d2 dd k))), (4, .int (bI (wpB (M.1 136) (fun p => M.1 138 (55 * q + p)) n2 (k + 1)))), (3, .int (nI d2)), (2, .int (nI n2)), (0, .ref (ad 135)), (1, .int (nI q))]) [0, 2, 3, 4, 5, 6, 7, 8] rfl ?_
                                refine r_mem (M2 := (mA M 142 (mdG (emZ (M.1 142)) (M.1 136) (fun p => M.1 138 (55 * q + p)) N dd n2 d2 (k + 1) k (i + 1) k 0 0))) (by rw [mIA]; exact congrArg _ (mdG_n (by omega))) ?_
                                exact ih_i (i + 1) (by omega) (by omega)
                              ·
                                refine r_iconst C (nI 1) dX8_layProduct_244 (by decide) ?_
                                refine r_iload C dX8_layProduct_245 1 rfl ?_
                                refine r_ishl C dX8_layProduct_247 ?_
                                refine r_topi (w := s1 i) rfl ?_
                                refine r_goto C 252 dX8_layProduct_248 (by decide) ?_
                                refine r_topi (w := (if pjB (M.1 136) (fun p => M.1 138 (55 * q + p)) n2 k i = true then s1 i else nI 0)) (by simp [h24, h38, h56, h112, h146, h160, h181, h196, h241]) ?_
                                refine r_ior C dX8_layProduct_252 ?_
                                refine r_iast C (id := 142) (n := 55) (a := 10 + k) (by decide) (fun _ => rfl) (by omega) (by decide) dX8_layProduct_253 ?_
                                refine r_iinc C (nI (i + 1)) [(7, .int (nI (i + 1))), (8, .int (bI (pjB (M.1 136) (fun p => M.1 138 (55 * q + p)) n2 k i))), (6, .int (nI k)), (5, .int (bI (fkB (M.1 136) (fun p => M.1 138 (55 * q + p)) n2 d2 dd k))), (4, .int (bI (wpB (M.1 136) (fun p => M.1 138 (55 * q + p)) n2 (k + 1)))), (3, .int (nI d2)), (2, .int (nI n2)), (0, .ref (ad 135)), (1, .int (nI q))] dX8_layProduct_254 (j := 1) rfl (inc_n i 1) (by decide) rfl ?_
                                refine r_goto C 173 dX8_layProduct_257 (by decide) ?_
                                refine r_lv (lv2 := [(7, .int (nI (i + 1))), (6, .int (nI k)), (5, .int (bI (fkB (M.1 136) (fun p => M.1 138 (55 * q + p)) n2 d2 dd k))), (4, .int (bI (wpB (M.1 136) (fun p => M.1 138 (55 * q + p)) n2 (k + 1)))), (3, .int (nI d2)), (2, .int (nI n2)), (0, .ref (ad 135)), (1, .int (nI q))]) [0, 2, 3, 4, 5, 6, 7, 8] rfl ?_
                                refine r_mem (M2 := (mA M 142 (mdG (emZ (M.1 142)) (M.1 136) (fun p => M.1 138 (55 * q + p)) N dd n2 d2 (k + 1) k (i + 1) k 0 0))) (by rw [mIA]; exact congrArg _ (mdG_n (by omega))) ?_
                                exact ih_i (i + 1) (by omega) (by omega)
                            ·
                              refine r_aload_n C dX8_layProduct_199 rfl 6 rfl ?_
                              refine r_iload_n C dX8_layProduct_200 rfl 7 rfl ?_
                              refine r_bipush C (nI 10) dX8_layProduct_201 (by decide) ?_
                              refine r_iload C dX8_layProduct_203 1 rfl ?_
                              refine r_iload_n C dX8_layProduct_205 rfl 5 rfl ?_
                              refine r_irem C dX8_layProduct_206 (nI_ne0 (by omega) (by omega)) ?_
                              refine r_topi (pk_rem (a := k) (d := n2) (by omega) (by omega) (by omega)) ?_
                              refine r_iadd C dX8_layProduct_207 ?_
                              refine r_topi (nI_add 10 (k % n2)) ?_
                              refine r_pcallV_i (nA := 2) C (Nat.le_of_ble_eq_true rfl) [.int (nI q), .int (nI (10 + (k % n2)))] (c_X8_other l D cs ad (mA M 142 (mdG (emZ (M.1 142)) (M.1 136) (fun p => M.1 138 (55 * q + p)) N dd n2 d2 (k + 1) k i k 0 0)) q (10 + (k % n2)) (by omega) (by omega)) (tt_V ml_X8_129 im_X8_other se_X8_other in_X8 co_X8_other) ⟨rfl, rfl⟩ ⟨rfl, by decide, by decide, by decide⟩ ⟨Nat.le_of_ble_eq_true rfl, Nat.le_of_ble_eq_true rfl⟩ (by decide) rfl rfl rfl rfl rfl (Nat.le_of_ble_eq_true rfl) dX8_layProduct_208 ?_
                              refine r_topi (w := (M.1 138 (55 * q + (10 + (k % n2))))) rfl ?_
                              refine r_iload C dX8_layProduct_211 0 rfl ?_
                              refine r_iload_n C dX8_layProduct_213 rfl 5 rfl ?_
                              refine r_irem C dX8_layProduct_214 (nI_ne0 (by omega) (by omega)) ?_
                              refine r_topi (pk_rem (a := i) (d := n2) (by omega) (by omega) (by omega)) ?_
                              refine r_pcallS_i (nA := 2) C (Nat.le_of_ble_eq_true rfl) [.int (M.1 138 (55 * q + (10 + (k % n2)))), .int (nI (i % n2))] (c_X8_has l D cs ad (mA M 142 (mdG (emZ (M.1 142)) (M.1 136) (fun p => M.1 138 (55 * q + p)) N dd n2 d2 (k + 1) k i k 0 0)) (M.1 138 (55 * q + (10 + (k % n2)))) (i % n2) ) (tt_S ml_X8_52 st_X8_has in_X8 co_X8_has) ⟨rfl, rfl⟩ ⟨rfl, by decide, by decide, by decide⟩ ⟨Nat.le_of_ble_eq_true rfl, Nat.le_of_ble_eq_true rfl⟩ rfl rfl (Nat.le_of_ble_eq_true rfl) dX8_layProduct_215 ?_
                              refine r_topi (w := bI (bt (M.1 138 (55 * q + (10 + (k % n2)))) (i % n2))) rfl ?_
                              refine r_ifB_eq C 225 dX8_layProduct_218 (by decide) (fun h218 => ?_) (fun h218 => ?_)
                              ·
                                refine r_iconst C (nI 0) dX8_layProduct_225 (by decide) ?_
                                refine r_topi (w := bI (pjB (M.1 136) (fun p => M.1 138 (55 * q + p)) n2 k i)) (bI_off (by simp [pjB, h24, h38, h56, h112, h146, h160, h181, h196, h218])) ?_
                                refine r_istore C [(8, .int (bI (pjB (M.1 136) (fun p => M.1 138 (55 * q + p)) n2 k i))), (7, .int (nI i)), (6, .int (nI k)), (5, .int (bI (fkB (M.1 136) (fun p => M.1 138 (55 * q + p)) n2 d2 dd k))), (4, .int (bI (wpB (M.1 136) (fun p => M.1 138 (55 * q + p)) n2 (k + 1)))), (3, .int (nI d2)), (2, .int (nI n2)), (0, .ref (ad 135)), (1, .int (nI q))] dX8_layProduct_226 (by decide) rfl ?_
                                refine r_aload_n C dX8_layProduct_228 rfl 7 rfl ?_
                                refine r_get C (Cn := RX8) (T := TX8) (N := 18) (id := 135) (by decide) inw_X8 rfl rfl 12 (by decide) rfl fl_X8_28 rfl dX8_layProduct_229 ?_
                                refine r_bipush C (nI 10) dX8_layProduct_232 (by decide) ?_
                                refine r_iload C dX8_layProduct_234 2 rfl ?_
                                refine r_iadd C dX8_layProduct_236 ?_
                                refine r_topi (nI_add 10 k) ?_
                                refine r_dup2_11 C dX8_layProduct_237 rfl rfl ?_
                                refine r_iald C (id := 142) (n := 55) (a := 10 + k) (by decide) rfl (by omega) (by decide) dX8_layProduct_238 ?_
                                refine r_topi (w := (pmI (M.1 136) (fun p => M.1 138 (55 * q + p)) n2 k i)) (mdG_at emZ_z (by omega)) ?_
                                refine r_iload C dX8_layProduct_239 0 rfl ?_
                                refine r_ifB_eq C 251 dX8_layProduct_241 (by decide) (fun h241 => ?_) (fun h241 => ?_)
                                ·
                                  refine r_iconst C (nI 0) dX8_layProduct_251 (by decide) ?_
                                  refine r_topi (w := (if pjB (M.1 136) (fun p => M.1 138 (55 * q + p)) n2 k i = true then s1 i else nI 0)) (by simp [h24, h38, h56, h112, h146, h160, h181, h196, h218, h241]) ?_
                                  refine r_ior C dX8_layProduct_252 ?_
                                  refine r_iast C (id := 142) (n := 55) (a := 10 + k) (by decide) (fun _ => rfl) (by omega) (by decide) dX8_layProduct_253 ?_
                                  refine r_iinc C (nI (i + 1)) [(7, .int (nI (i + 1))), (8, .int (bI (pjB (M.1 136) (fun p => M.1 138 (55 * q + p)) n2 k i))), (6, .int (nI k)), (5, .int (bI (fkB (M.1 136) (fun p => M.1 138 (55 * q + p)) n2 d2 dd k))), (4, .int (bI (wpB (M.1 136) (fun p => M.1 138 (55 * q + p)) n2 (k + 1)))), (3, .int (nI d2)), (2, .int (nI n2)), (0, .ref (ad 135)), (1, .int (nI q))] dX8_layProduct_254 (j := 1) rfl (inc_n i 1) (by decide) rfl ?_
                                  refine r_goto C 173 dX8_layProduct_257 (by decide) ?_
                                  refine r_lv (lv2 := [(7, .int (nI (i + 1))), (6, .int (nI k)), (5, .int (bI (fkB (M.1 136) (fun p => M.1 138 (55 * q + p)) n2 d2 dd k))), (4, .int (bI (wpB (M.1 136) (fun p => M.1 138 (55 * q + p)) n2 (k + 1)))), (3, .int (nI d2)), (2, .int (nI n2)), (0, .ref (ad 135)), (1, .int (nI q))]) [0, 2, 3, 4, 5, 6, 7, 8] rfl ?_
                                  refine r_mem (M2 := (mA M 142 (mdG (emZ (M.1 142)) (M.1 136) (fun p => M.1 138 (55 * q + p)) N dd n2 d2 (k + 1) k (i + 1) k 0 0))) (by rw [mIA]; exact congrArg _ (mdG_n (by omega))) ?_
                                  exact ih_i (i + 1) (by omega) (by omega)
                                ·
                                  refine r_iconst C (nI 1) dX8_layProduct_244 (by decide) ?_
                                  refine r_iload C dX8_layProduct_245 1 rfl ?_
                                  refine r_ishl C dX8_layProduct_247 ?_
                                  refine r_topi (w := s1 i) rfl ?_
                                  refine r_goto C 252 dX8_layProduct_248 (by decide) ?_
                                  refine r_topi (w := (if pjB (M.1 136) (fun p => M.1 138 (55 * q + p)) n2 k i = true then s1 i else nI 0)) (by simp [h24, h38, h56, h112, h146, h160, h181, h196, h218, h241]) ?_
                                  refine r_ior C dX8_layProduct_252 ?_
                                  refine r_iast C (id := 142) (n := 55) (a := 10 + k) (by decide) (fun _ => rfl) (by omega) (by decide) dX8_layProduct_253 ?_
                                  refine r_iinc C (nI (i + 1)) [(7, .int (nI (i + 1))), (8, .int (bI (pjB (M.1 136) (fun p => M.1 138 (55 * q + p)) n2 k i))), (6, .int (nI k)), (5, .int (bI (fkB (M.1 136) (fun p => M.1 138 (55 * q + p)) n2 d2 dd k))), (4, .int (bI (wpB (M.1 136) (fun p => M.1 138 (55 * q + p)) n2 (k + 1)))), (3, .int (nI d2)), (2, .int (nI n2)), (0, .ref (ad 135)), (1, .int (nI q))] dX8_layProduct_254 (j := 1) rfl (inc_n i 1) (by decide) rfl ?_
                                  refine r_goto C 173 dX8_layProduct_257 (by decide) ?_
                                  refine r_lv (lv2 := [(7, .int (nI (i + 1))), (6, .int (nI k)), (5, .int (bI (fkB (M.1 136) (fun p => M.1 138 (55 * q + p)) n2 d2 dd k))), (4, .int (bI (wpB (M.1 136) (fun p => M.1 138 (55 * q + p)) n2 (k + 1)))), (3, .int (nI d2)), (2, .int (nI n2)), (0, .ref (ad 135)), (1, .int (nI q))]) [0, 2, 3, 4, 5, 6, 7, 8] rfl ?_
                                  refine r_mem (M2 := (mA M 142 (mdG (emZ (M.1 142)) (M.1 136) (fun p => M.1 138 (55 * q + p)) N dd n2 d2 (k + 1) k (i + 1) k 0 0))) (by rw [mIA]; exact congrArg _ (mdG_n (by omega))) ?_
                                  exact ih_i (i + 1) (by omega) (by omega)
                              ·
                                refine r_iconst C (nI 1) dX8_layProduct_221 (by decide) ?_
                                refine r_goto C 226 dX8_layProduct_222 (by decide) ?_
                                refine r_topi (w := bI (pjB (M.1 136) (fun p => M.1 138 (55 * q + p)) n2 k i)) (bI_on (by simp [pjB, h24, h38, h56, h112, h146, h160, h181, h196, h218])) ?_
                                refine r_istore C [(8, .int (bI (pjB (M.1 136) (fun p => M.1 138 (55 * q + p)) n2 k i))), (7, .int (nI i)), (6, .int (nI k)), (5, .int (bI (fkB (M.1 136) (fun p => M.1 138 (55 * q + p)) n2 d2 dd k))), (4, .int (bI (wpB (M.1 136) (fun p => M.1 138 (55 * q + p)) n2 (k + 1)))), (3, .int (nI d2)), (2, .int (nI n2)), (0, .ref (ad 135)), (1, .int (nI q))] dX8_layProduct_226 (by decide) rfl ?_
                                refine r_aload_n C dX8_layProduct_228 rfl 7 rfl ?_
                                refine r_get C (Cn := RX8) (T := TX8) (N := 18) (id := 135) (by decide) inw_X8 rfl rfl 12 (by decide) rfl fl_X8_28 rfl dX8_layProduct_229 ?_
                                refine r_bipush C (nI 10) dX8_layProduct_232 (by decide) ?_
                                refine r_iload C dX8_layProduct_234 2 rfl ?_
                                refine r_iadd C dX8_layProduct_236 ?_
                                refine r_topi (nI_add 10 k) ?_
                                refine r_dup2_11 C dX8_layProduct_237 rfl rfl ?_
                                refine r_iald C (id := 142) (n := 55) (a := 10 + k) (by decide) rfl (by omega) (by decide) dX8_layProduct_238 ?_
                                refine r_topi (w := (pmI (M.1 136) (fun p => M.1 138 (55 * q + p)) n2 k i)) (mdG_at emZ_z (by omega)) ?_
                                refine r_iload C dX8_layProduct_239 0 rfl ?_
                                refine r_ifB_eq C 251 dX8_layProduct_241 (by decide) (fun h241 => ?_) (fun h241 => ?_)
                                ·
                                  refine r_iconst C (nI 0) dX8_layProduct_251 (by decide) ?_
                                  refine r_topi (w := (if pjB (M.1 136) (fun p => M.1 138 (55 * q + p)) n2 k i = true then s1 i else nI 0)) (by simp [h24, h38, h56, h112, h146, h160, h181, h196, h218, h241]) ?_
                                  refine r_ior C dX8_layProduct_252 ?_
                                  refine r_iast C (id := 142) (n := 55) (a := 10 + k) (by decide) (fun _ => rfl) (by omega) (by decide) dX8_layProduct_253 ?_
                                  refine r_iinc C (nI (i + 1)) [(7, .int (nI (i + 1))), (8, .int (bI (pjB (M.1 136) (fun p => M.1 138 (55 * q + p)) n2 k i))), (6, .int (nI k)), (5, .int (bI (fkB (M.1 136) (fun p => M.1 138 (55 * q + p)) n2 d2 dd k))), (4, .int (bI (wpB (M.1 136) (fun p => M.1 138 (55 * q + p)) n2 (k + 1)))), (3, .int (nI d2)), (2, .int (nI n2)), (0, .ref (ad 135)), (1, .int (nI q))] dX8_layProduct_254 (j := 1) rfl (inc_n i 1) (by decide) rfl ?_
                                  refine r_goto C 173 dX8_layProduct_257 (by decide) ?_
                                  refine r_lv (lv2 := [(7, .int (nI (i + 1))), (6, .int (nI k)), (5, .int (bI (fkB (M.1 136) (fun p => M.1 138 (55 * q + p)) n2 d2 dd k))), (4, .int (bI (wpB (M.1 136) (fun p => M.1 138 (55 * q + p)) n2 (k + 1)))), (3, .int (nI d2)), (2, .int (nI n2)), (0, .ref (ad 135)), (1, .int (nI q))]) [0, 2, 3, 4, 5, 6, 7, 8] rfl ?_
                                  refine r_mem (M2 := (mA M 142 (mdG (emZ (M.1 142)) (M.1 136) (fun p => M.1 138 (55 * q + p)) N dd n2 d2 (k + 1) k (i + 1) k 0 0))) (by rw [mIA]; exact congrArg _ (mdG_n (by omega))) ?_
                                  exact ih_i (i + 1) (by omega) (by omega)
                                ·
                                  refine r_iconst C (nI 1) dX8_layProduct_244 (by decide) ?_
                                  refine r_iload C dX8_layProduct_245 1 rfl ?_
                                  refine r_ishl C dX8_layProduct_247 ?_
                                  refine r_topi (w := s1 i) rfl ?_
                                  refine r_goto C 252 dX8_layProduct_248 (by decide) ?_
                                  refine r_topi (w := (if pjB (M.1 136) (fun p => M.1 138 (55 * q + p)) n2 k i = true then s1 i else nI 0)) (by simp [h24, h38, h56, h112, h146, h160, h181, h196, h218, h241]) ?_
                                  refine r_ior C dX8_layProduct_252 ?_
                                  refine r_iast C (id := 142) (n := 55) (a := 10 + k) (by decide) (fun _ => rfl) (by omega) (by decide) dX8_layProduct_253 ?_
                                  refine r_iinc C (nI (i + 1)) [(7, .int (nI (i + 1))), (8, .int (bI (pjB (M.1 136) (fun p => M.1 138 (55 * q + p)) n2 k i))), (6, .int (nI k)), (5, .int (bI (fkB (M.1 136) (fun p => M.1 138 (55 * q + p)) n2 d2 dd k))), (4, .int (bI (wpB (M.1 136) (fun p => M.1 138 (55 * q + p)) n2 (k + 1)))), (3, .int (nI d2)), (2, .int (nI n2)), (0, .ref (ad 135)), (1, .int (nI q))] dX8_layProduct_254 (j := 1) rfl (inc_n i 1) (by decide) rfl ?_
                                  refine r_goto C 173 dX8_layProduct_257 (by decide) ?_
                                  refine r_lv (lv2 := [(7, .int (nI (i + 1))), (6, .int (nI k)), (5, .int (bI (fkB (M.1 136) (fun p => M.1 138 (55 * q + p)) n2 d2 dd k))), (4, .int (bI (wpB (M.1 136) (fun p => M.1 138 (55 * q + p)) n2 (k + 1)))), (3, .int (nI d2)), (2, .int (nI n2)), (0, .ref (ad 135)), (1, .int (nI q))]) [0, 2, 3, 4, 5, 6, 7, 8] rfl ?_
                                  refine r_mem (M2 := (mA M 142 (mdG (emZ (M.1 142)) (M.1 136) (fun p => M.1 138 (55 * q + p)) N dd n2 d2 (k + 1) k (i + 1) k 0 0))) (by rw [mIA]; exact congrArg _ (mdG_n (by omega))) ?_
                                  exact ih_i (i + 1) (by omega) (by omega)
                      refine r_lv (lv2 := [(7, .int (nI 0)), (6, .int (nI k)), (5, .int (bI (fkB (M.1 136) (fun p => M.1 138 (55 * q + p)) n2 d2 dd k))), (4, .int (bI (wpB (M.1 136) (fun p => M.1 138 (55 * q + p)) n2 (k + 1)))), (3, .int (nI d2)), (2, .int (nI n2)), (0, .ref (ad 135)), (1, .int (nI q))]) [0, 2, 3, 1, 4, 5, 6, 7] rfl ?_
                      refine r_mem (M2 := (mA M 142 (mdG (emZ (M.1 142)) (M.1 136) (fun p => M.1 138 (55 * q + p)) N dd n2 d2 (k + 1) k 0 k 0 0))) (by rw [mIA]; exact congrArg _ (mdG_w (by omega))) ?_
                      exact Li (N + 1) 0 (by omega) (by omega)
                    ·
                      refine r_iconst C (nI 1) dX8_layProduct_163 (by decide) ?_
                      refine r_goto C 168 dX8_layProduct_164 (by decide) ?_
                      refine r_topi (w := bI (wpB (M.1 136) (fun p => M.1 138 (55 * q + p)) n2 (k + 1))) (bI_on (by simp [wpB, h24, h38, h56, h112, h146, h160])) ?_
                      refine r_istore C [(4, .int (bI (wpB (M.1 136) (fun p => M.1 138 (55 * q + p)) n2 (k + 1)))), (6, .int (nI k)), (5, .int (bI (fkB (M.1 136) (fun p => M.1 138 (55 * q + p)) n2 d2 dd k))), (3, .int (nI d2)), (2, .int (nI n2)), (0, .ref (ad 135)), (1, .int (nI q))] dX8_layProduct_168 (by decide) rfl ?_
                      refine r_iconst C (nI 0) dX8_layProduct_170 (by decide) ?_
                      refine r_istore C [(7, .int (nI 0)), (4, .int (bI (wpB (M.1 136) (fun p => M.1 138 (55 * q + p)) n2 (k + 1)))), (6, .int (nI k)), (5, .int (bI (fkB (M.1 136) (fun p => M.1 138 (55 * q + p)) n2 d2 dd k))), (3, .int (nI d2)), (2, .int (nI n2)), (0, .ref (ad 135)), (1, .int (nI q))] dX8_layProduct_171 (by decide) rfl ?_
                      have Li : ∀ (f_i i : Nat), N + 1 ≤ i + f_i → i ≤ N → VV l D cs ad 9 κ 0 (mA M 142 (mdG (emZ (M.1 142)) (M.1 136) (fun p => M.1 138 (55 * q + p)) N dd n2 d2 (k + 1) k i k 0 0)) 173 [(7, .int (nI i)), (6, .int (nI k)), (5, .int (bI (fkB (M.1 136) (fun p => M.1 138 (55 * q + p)) n2 d2 dd k))), (4, .int (bI (wpB (M.1 136) (fun p => M.1 138 (55 * q + p)) n2 (k + 1)))), (3, .int (nI d2)), (2, .int (nI n2)), (0, .ref (ad 135)), (1, .int (nI q))] [] := by
                        intro f_i
                        induction f_i with
                        | zero => intro i hk1_i hk2_i; exact absurd hk1_i (by omega)
                        | succ f_i ih_i =>
                          intro i hk1_i hk2_i
                          refine r_iload C dX8_layProduct_173 0 rfl ?_
                          refine r_aload_n C dX8_layProduct_175 rfl 6 rfl ?_
                          refine r_get C (Cn := RX8) (T := TX8) (N := 18) (id := 135) (by decide) inw_X8 rfl rfl 12 (by decide) rfl fl_X8_28 rfl dX8_layProduct_176 ?_
                          refine r_iconst C (nI 0) dX8_layProduct_179 (by decide) ?_
                          refine r_iald C (id := 142) (n := 55) (a := 0) (by decide) rfl (by decide) (by decide) dX8_layProduct_180 ?_
                          refine r_topi (w := nI N) (rfl) ?_
                          refine r_icmpN_ge C 260 dX8_layProduct_181 (by decide) (by omega) (by omega) (fun h181 => ?_) (fun h181 => ?_)
                          ·
                            have hk9 : N = i := by omega
                            subst hk9
                            refine r_iconst C (nI 0) dX8_layProduct_260 (by decide) ?_
                            refine r_istore C [(7, .int (nI 0)), (6, .int (nI k)), (5, .int (bI (fkB (M.1 136) (fun p => M.1 138 (55 * q + p)) n2 d2 dd k))), (4, .int (bI (wpB (M.1 136) (fun p => M.1 138 (55 * q + p)) n2 (k + 1)))), (3, .int (nI d2)), (2, .int (nI n2)), (0, .ref (ad 135)), (1, .int (nI q))] dX8_layProduct_261 (by decide) rfl ?_
                            have Lp9 : ∀ (f_p p : Nat), dd + 1 ≤ p + f_p → p ≤ dd → VV l D cs ad 9 κ 0 (mA M 142 (mdG (emZ (M.1 142)) (M.1 136) (fun p => M.1 138 (55 * q + p)) N dd n2 d2 (k + 1) (k + 1) 0 k p 0)) 263 [(7, .int (nI p)), (6, .int (nI k)), (5, .int (bI (fpB (M.1 136) (fun p => M.1 138 (55 * q + p)) n2 d2 k (fkB (M.1 136) (fun p => M.1 138 (55 * q + p)) n2 d2 dd k) p))), (4, .int (bI (wpB (M.1 136) (fun p => M.1 138 (55 * q + p)) n2 (k + 1)))), (3, .int (nI d2)), (2, .int (nI n2)), (0, .ref (ad 135)), (1, .int (nI q))] [] := by
                              intro f_p
                              induction f_p with
                              | zero => intro p hk1_p hk2_p; exact absurd hk1_p (by omega)
                              | succ f_p ih_p =>
                                intro p hk1_p hk2_p
                                refine r_iload C dX8_layProduct_263 0 rfl ?_
                                refine r_aload_n C dX8_layProduct_265 rfl 6 rfl ?_
                                refine r_get C (Cn := RX8) (T := TX8) (N := 18) (id := 135) (by decide) inw_X8 rfl rfl 12 (by decide) rfl fl_X8_28 rfl dX8_layProduct_266 ?_
                                refine r_iconst C (nI 1) dX8_layProduct_269 (by decide) ?_
                                refine r_iald C (id := 142) (n := 55) (a := 1) (by decide) rfl (by decide) (by decide) dX8_layProduct_270 ?_
                                refine r_topi (w := nI dd) (rfl) ?_
                                refine r_icmpN_ge C 352 dX8_layProduct_271 (by decide) (by omega) (by omega) (fun h271 => ?_) (fun h271 => ?_)
                                ·
                                  have hk9 : dd = p := by omega
                                  subst hk9
                                  refine r_iinc C (nI (k + 1)) [(6, .int (nI (k + 1))), (7, .int (nI dd)), (5, .int (bI (fpB (M.1 136) (fun p => M.1 138 (55 * q + p)) n2 d2 k (fkB (M.1 136) (fun p => M.1 138 (55 * q + p)) n2 d2 dd k) dd))), (4, .int (bI (wpB (M.1 136) (fun p => M.1 138 (55 * q + p)) n2 (k + 1)))), (3, .int (nI d2)), (2, .int (nI n2)), (0, .ref (ad 135)), (1, .int (nI q))] dX8_layProduct_352 (j := 1) rfl (inc_n k 1) (by decide) rfl ?_
                                  refine r_goto C 104 dX8_layProduct_355 (by decide) ?_
                                  refine r_lv (lv2 := [(6, .int (nI (k + 1))), (5, .int (bI (fkB (M.1 136) (fun p => M.1 138 (55 * q + p)) n2 d2 dd (k + 1)))), (4, .int (bI (wpB (M.1 136) (fun p => M.1 138 (55 * q + p)) n2 (k + 1)))), (3, .int (nI d2)), (2, .int (nI n2)), (0, .ref (ad 135)), (1, .int (nI q))]) [0, 2, 3, 4, 5, 6, 7] rfl ?_
                                  refine r_mem (M2 := (mA M 142 (mdG (emZ (M.1 142)) (M.1 136) (fun p => M.1 138 (55 * q + p)) N dd n2 d2 (k + 1) (k + 1) 0 (k + 1) 0 0))) (by rw [mdG_L h4]) ?_
                                  exact ih (k + 1) (by omega) (by omega)
                                ·
                                  have q3 : p / d2 < d := hqd p (by omega)
                                  have r3 : p % d2 < d2 := Nat.mod_lt _ (by omega)
                                  refine r_aload_n C dX8_layProduct_274 rfl 6 rfl ?_
                                  refine r_get C (Cn := RX8) (T := TX8) (N := 18) (id := 135) (by decide) inw_X8 rfl rfl 0 (by decide) rfl fl_X8_7 rfl dX8_layProduct_275 ?_
                                  refine r_iload C dX8_layProduct_278 1 rfl ?_
                                  refine r_iload_n C dX8_layProduct_280 rfl 5 rfl ?_
                                  refine r_idiv C dX8_layProduct_281 (nI_ne0 (by omega) (by omega)) ?_
                                  refine r_topi (pk_div (a := k) (d := n2) (by omega) (by omega) (by omega)) ?_
                                  refine r_pcallS_i (nA := 1) C (Nat.le_of_ble_eq_true rfl) [.int (nI (k / n2))] (c_X8_labelAt l D cs ad (mA M 142 (mdG (emZ (M.1 142)) (M.1 136) (fun p => M.1 138 (55 * q + p)) N dd n2 d2 (k + 1) (k + 1) 0 k p 0)) (k / n2) ) (tt_S ml_X8_56 st_X8_labelAt in_X8 co_X8_labelAt) ⟨rfl, rfl⟩ ⟨rfl, by decide, by decide, by decide⟩ ⟨Nat.le_of_ble_eq_true rfl, Nat.le_of_ble_eq_true rfl⟩ rfl rfl (Nat.le_of_ble_eq_true rfl) dX8_layProduct_282 ?_
                                  refine r_topi (w := nI (18 + 4 * (k / n2))) rfl ?_
                                  refine r_iload C dX8_layProduct_285 0 rfl ?_
                                  refine r_iload_n C dX8_layProduct_287 rfl 4 rfl ?_
                                  refine r_idiv C dX8_layProduct_288 (nI_ne0 (by omega) (by omega)) ?_
                                  refine r_topi (pk_div (a := p) (d := d2) (by omega) (by omega) (by omega)) ?_
                                  refine r_iadd C dX8_layProduct_289 ?_
                                  refine r_topi (nI_add (18 + 4 * (k / n2)) (p / d2)) ?_
                                  refine r_iald C (id := 136) (n := 55) (a := (18 + 4 * (k / n2)) + (p / d2)) (by decide) rfl (by omega) (by decide) dX8_layProduct_290 ?_
                                  refine r_topi (w := (M.1 136 ((18 + 4 * (k / n2)) + (p / d2)))) (rfl) ?_
                                  refine r_aload_n C dX8_layProduct_291 rfl 6 rfl ?_
                                  refine r_iload_n C dX8_layProduct_292 rfl 7 rfl ?_
                                  refine r_iload C dX8_layProduct_293 1 rfl ?_
                                  refine r_iload_n C dX8_layProduct_295 rfl 5 rfl ?_
                                  refine r_irem C dX8_layProduct_296 (nI_ne0 (by omega) (by omega)) ?_
                                  refine r_topi (pk_rem (a := k) (d := n2) (by omega) (by omega) (by omega)) ?_
                                  refine r_pcallS_i (nA := 1) C (Nat.le_of_ble_eq_true rfl) [.int (nI (k % n2))] (c_X8_labelAt l D cs ad (mA M 142 (mdG (emZ (M.1 142)) (M.1 136) (fun p => M.1 138 (55 * q + p)) N dd n2 d2 (k + 1) (k + 1) 0 k p 0)) (k % n2) ) (tt_S ml_X8_56 st_X8_labelAt in_X8 co_X8_labelAt) ⟨rfl, rfl⟩ ⟨rfl, by decide, by decide, by decide⟩ ⟨Nat.le_of_ble_eq_true rfl, Nat.le_of_ble_eq_true rfl⟩ rfl rfl (Nat.le_of_ble_eq_true rfl) dX8_layProduct_297 ?_
                                  refine r_topi (w := nI (18 + 4 * (k % n2))) rfl ?_
                                  refine r_iload C dX8_layProduct_300 0 rfl ?_
                                  refine r_iload_n C dX8_layProduct_302 rfl 4 rfl ?_
                                  refine r_irem C dX8_layProduct_303 (nI_ne0 (by omega) (by omega)) ?_
                                  refine r_topi (pk_rem (a := p) (d := d2) (by omega) (by omega) (by omega)) ?_
                                  refine r_iadd C dX8_layProduct_304 ?_
                                  refine r_topi (nI_add (18 + 4 * (k % n2)) (p % d2)) ?_
                                  refine r_pcallV_i (nA := 2) C (Nat.le_of_ble_eq_true rfl) [.int (nI q), .int (nI ((18 + 4 * (k % n2)) + (p % d2)))] (c_X8_other l D cs ad (mA M 142 (mdG (emZ (M.1 142)) (M.1 136) (fun p => M.1 138 (55 * q + p)) N dd n2 d2 (k + 1) (k + 1) 0 k p 0)) q ((18 + 4 * (k % n2)) + (p % d2)) (by omega) (by omega)) (tt_V ml_X8_129 im_X8_other se_X8_other in_X8 co_X8_other) ⟨rfl, rfl⟩ ⟨rfl, by decide, by decide, by decide⟩ ⟨Nat.le_of_ble_eq_true rfl, Nat.le_of_ble_eq_true rfl⟩ (by decide) rfl rfl rfl rfl rfl (Nat.le_of_ble_eq_true rfl) dX8_layProduct_305 ?_
                                  refine r_topi (w := (M.1 138 (55 * q + ((18 + 4 * (k % n2)) + (p % d2))))) rfl ?_
                                  refine r_imul C dX8_layProduct_308 ?_
                                  refine r_topi (w := (plI (M.1 136) (fun p => M.1 138 (55 * q + p)) n2 d2 k p)) (rfl) ?_
                                  refine r_istore C [(8, .int (plI (M.1 136) (fun p => M.1 138 (55 * q + p)) n2 d2 k p)), (7, .int (nI p)), (6, .int (nI k)), (5, .int (bI (fpB (M.1 136) (fun p => M.1 138 (55 * q + p)) n2 d2 k (fkB (M.1 136) (fun p => M.1 138 (55 * q + p)) n2 d2 dd k) p))), (4, .int (bI (wpB (M.1 136) (fun p => M.1 138 (55 * q + p)) n2 (k + 1)))), (3, .int (nI d2)), (2, .int (nI n2)), (0, .ref (ad 135)), (1, .int (nI q))] dX8_layProduct_309 (by decide) rfl ?_
                                  refine r_aload_n C dX8_layProduct_311 rfl 7 rfl ?_
                                  refine r_get C (Cn := RX8) (T := TX8) (N := 18) (id := 135) (by decide) inw_X8 rfl rfl 12 (by decide) rfl fl_X8_28 rfl dX8_layProduct_312 ?_
                                  refine r_iload C dX8_layProduct_315 2 rfl ?_
                                  refine r_pcallS_i (nA := 1) C (Nat.le_of_ble_eq_true rfl) [.int (nI k)] (c_X8_labelAt l D cs ad (mA M 142 (mdG (emZ (M.1 142)) (M.1 136) (fun p => M.1 138 (55 * q + p)) N dd n2 d2 (k + 1) (k + 1) 0 k p 0)) k ) (tt_S ml_X8_56 st_X8_labelAt in_X8 co_X8_labelAt) ⟨rfl, rfl⟩ ⟨rfl, by decide, by decide, by decide⟩ ⟨Nat.le_of_ble_eq_true rfl, Nat.le_of_ble_eq_true rfl⟩ rfl rfl (Nat.le_of_ble_eq_true rfl) dX8_layProduct_317 ?_
                                  refine r_topi (w := nI (18 + 4 * k)) rfl ?_
                                  refine r_iload C dX8_layProduct_320 1 rfl ?_
                                  refine r_iadd C dX8_layProduct_322 ?_
                                  refine r_topi (nI_add (18 + 4 * k) p) ?_
                                  refine r_iload C dX8_layProduct_323 0 rfl ?_
                                  refine r_iast C (id := 142) (n := 55) (a := (18 + 4 * k) + p) (by decide) (fun _ => rfl) (by omega) (by decide) dX8_layProduct_325 ?_
                                  refine r_iload C dX8_layProduct_326 3 rfl ?_
                                  refine r_ifB_eq C 343 dX8_layProduct_328 (by decide) (fun h328 => ?_) (fun h328 => ?_)
                                  ·
                                    refine r_iconst C (nI 0) dX8_layProduct_343 (by decide) ?_
                                    refine r_topi (w := bI (fpB (M.1 136) (fun p => M.1 138 (55 * q + p)) n2 d2 k (fkB (M.1 136) (fun p => M.1 138 (55 * q + p)) n2 d2 dd k) (p + 1))) (bI_off (by simp [fpB, h24, h38, h56, h112, h146, h160, h181, h271, h328])) ?_
                                    refine r_istore C [(5, .int (bI (fpB (M.1 136) (fun p => M.1 138 (55 * q + p)) n2 d2 k (fkB (M.1 136) (fun p => M.1 138 (55 * q + p)) n2 d2 dd k) (p + 1)))), (8, .int (plI (M.1 136) (fun p => M.1 138 (55 * q + p)) n2 d2 k p)), (7, .int (nI p)), (6, .int (nI k)), (4, .int (bI (wpB (M.1 136) (fun p => M.1 138 (55 * q + p)) n2 (k + 1)))), (3, .int (nI d2)), (2, .int (nI n2)), (0, .ref (ad 135)), (1, .int (nI q))] dX8_layProduct_344 (by decide) rfl ?_
                                    refine r_iinc C (nI (p + 1)) [(7, .int (nI (p + 1))), (5, .int (bI (fpB (M.1 136) (fun p => M.1 138 (55 * q + p)) n2 d2 k (fkB (M.1 136) (fun p => M.1 138 (55 * q + p)) n2 d2 dd k) (p + 1)))), (8, .int (plI (M.1 136) (fun p => M.1 138 (55 * q + p)) n2 d2 k p)), (6, .int (nI k)), (4, .int (bI (wpB (M.1 136) (fun p => M.1 138 (55 * q + p)) n2 (k + 1)))), (3, .int (nI d2)), (2, .int (nI n2)), (0, .ref (ad 135)), (1, .int (nI q))] dX8_layProduct_346 (j := 2) rfl (inc_n p 1) (by decide) rfl ?_
                                    refine r_goto C 263 dX8_layProduct_349 (by decide) ?_
                                    refine r_lv (lv2 := [(7, .int (nI (p + 1))), (6, .int (nI k)), (5, .int (bI (fpB (M.1 136) (fun p => M.1 138 (55 * q + p)) n2 d2 k (fkB (M.1 136) (fun p => M.1 138 (55 * q + p)) n2 d2 dd k) (p + 1)))), (4, .int (bI (wpB (M.1 136) (fun p => M.1 138 (55 * q + p)) n2 (k + 1)))), (3, .int (nI d2)), (2, .int (nI n2)), (0, .ref (ad 135)), (1, .int (nI q))]) [0, 3, 1, 4, 5, 6, 7, 8] rfl ?_
                                    refine r_mem (M2 := (mA M 142 (mdG (emZ (M.1 142)) (M.1 136) (fun p => M.1 138 (55 * q + p)) N dd n2 d2 (k + 1) (k + 1) 0 k (p + 1) 0))) (by rw [mIA]; exact congrArg _ (mdG_l (by omega) (by omega))) ?_
                                    exact ih_p (p + 1) (by omega) (by omega)
                                  ·
                                    refine r_iload C dX8_layProduct_331 0 rfl ?_
                                    refine r_pcallS_i (nA := 1) C (Nat.le_of_ble_eq_true rfl) [.int (plI (M.1 136) (fun p => M.1 138 (55 * q + p)) n2 d2 k p)] (c_X8_isNumber l D cs ad (mI (mA M 142 (mdG (emZ (M.1 142)) (M.1 136) (fun p => M.1 138 (55 * q + p)) N dd n2 d2 (k + 1) (k + 1) 0 k p 0)) 142 ((18 + 4 * k) + p) (plI (M.1 136) (fun p => M.1 138 (55 * q + p)) n2 d2 k p)) (plI (M.1 136) (fun p => M.1 138 (55 * q + p)) n2 d2 k p) ) (tt_S ml_X8_132 st_X8_isNumber in_X8 co_X8_isNumber) ⟨rfl, rfl⟩ ⟨rfl, by decide, by decide, by decide⟩ ⟨Nat.le_of_ble_eq_true rfl, Nat.le_of_ble_eq_true rfl⟩ rfl rfl (Nat.le_of_ble_eq_true rfl) dX8_layProduct_333 ?_
                                    refine r_topi (w := bI (wit (plI (M.1 136) (fun p => M.1 138 (55 * q + p)) n2 d2 k p) (-9) (nI 9))) rfl ?_
                                    refine r_ifB_eq C 343 dX8_layProduct_336 (by decide) (fun h336 => ?_) (fun h336 => ?_)
                                    ·
                                      refine r_iconst C (nI 0) dX8_layProduct_343 (by decide) ?_
                                      refine r_topi (w := bI (fpB (M.1 136) (fun p => M.1 138 (55 * q + p)) n2 d2 k (fkB (M.1 136) (fun p => M.1 138 (55 * q + p)) n2 d2 dd k) (p + 1))) (bI_off (by simp [fpB, h24, h38, h56, h112, h146, h160, h181, h271, h328, h336])) ?_
                                      refine r_istore C [(5, .int (bI (fpB (M.1 136) (fun p => M.1 138 (55 * q + p)) n2 d2 k (fkB (M.1 136) (fun p => M.1 138 (55 * q + p)) n2 d2 dd k) (p + 1)))), (8, .int (plI (M.1 136) (fun p => M.1 138 (55 * q + p)) n2 d2 k p)), (7, .int (nI p)), (6, .int (nI k)), (4, .int (bI (wpB (M.1 136) (fun p => M.1 138 (55 * q + p)) n2 (k + 1)))), (3, .int (nI d2)), (2, .int (nI n2)), (0, .ref (ad 135)), (1, .int (nI q))] dX8_layProduct_344 (by decide) rfl ?_
                                      refine r_iinc C (nI (p + 1)) [(7, .int (nI (p + 1))), (5, .int (bI (fpB (M.1 136) (fun p => M.1 138 (55 * q + p)) n2 d2 k (fkB (M.1 136) (fun p => M.1 138 (55 * q + p)) n2 d2 dd k) (p + 1)))), (8, .int (plI (M.1 136) (fun p => M.1 138 (55 * q + p)) n2 d2 k p)), (6, .int (nI k)), (4, .int (bI (wpB (M.1 136) (fun p => M.1 138 (55 * q + p)) n2 (k + 1)))), (3, .int (nI d2)), (2, .int (nI n2)), (0, .ref (ad 135)), (1, .int (nI q))] dX8_layProduct_346 (j := 2) rfl (inc_n p 1) (by decide) rfl ?_
                                      refine r_goto C 263 dX8_layProduct_349 (by decide) ?_
                                      refine r_lv (lv2 := [(7, .int (nI (p + 1))), (6, .int (nI k)), (5, .int (bI (fpB (M.1 136) (fun p => M.1 138 (55 * q + p)) n2 d2 k (fkB (M.1 136) (fun p => M.1 138 (55 * q + p)) n2 d2 dd k) (p + 1)))), (4, .int (bI (wpB (M.1 136) (fun p => M.1 138 (55 * q + p)) n2 (k + 1)))), (3, .int (nI d2)), (2, .int (nI n2)), (0, .ref (ad 135)), (1, .int (nI q))]) [0, 3, 1, 4, 5, 6, 7, 8] rfl ?_
                                      refine r_mem (M2 := (mA M 142 (mdG (emZ (M.1 142)) (M.1 136) (fun p => M.1 138 (55 * q + p)) N dd n2 d2 (k + 1) (k + 1) 0 k (p + 1) 0))) (by rw [mIA]; exact congrArg _ (mdG_l (by omega) (by omega))) ?_
                                      exact ih_p (p + 1) (by omega) (by omega)
                                    ·
                                      refine r_iconst C (nI 1) dX8_layProduct_339 (by decide) ?_
                                      refine r_goto C 344 dX8_layProduct_340 (by decide) ?_
                                      refine r_topi (w := bI (fpB (M.1 136) (fun p => M.1 138 (55 * q + p)) n2 d2 k (fkB (M.1 136) (fun p => M.1 138 (55 * q + p)) n2 d2 dd k) (p + 1))) (bI_on (by simp [fpB, h24, h38, h56, h112, h146, h160, h181, h271, h328, h336])) ?_
                                      refine r_istore C [(5, .int (bI (fpB (M.1 136) (fun p => M.1 138 (55 * q + p)) n2 d2 k (fkB (M.1 136) (fun p => M.1 138 (55 * q + p)) n2 d2 dd k) (p + 1)))), (8, .int (plI (M.1 136) (fun p => M.1 138 (55 * q + p)) n2 d2 k p)), (7, .int (nI p)), (6, .int (nI k)), (4, .int (bI (wpB (M.1 136) (fun p => M.1 138 (55 * q + p)) n2 (k + 1)))), (3, .int (nI d2)), (2, .int (nI n2)), (0, .ref (ad 135)), (1, .int (nI q))] dX8_layProduct_344 (by decide) rfl ?_
                                      refine r_iinc C (nI (p + 1)) [(7, .int (nI (p + 1))), (5, .int (bI (fpB (M.1 136) (fun p => M.1 138 (55 * q + p)) n2 d2 k (fkB (M.1 136) (fun p => M.1 138 (55 * q + p)) n2 d2 dd k) (p + 1)))), (8, .int (plI (M.1 136) (fun p => M.1 138 (55 * q + p)) n2 d2 k p)), (6, .int (nI k)), (4, .int (bI (wpB (M.1 136) (fun p => M.1 138 (55 * q + p)) n2 (k + 1)))), (3, .int (nI d2)), (2, .int (nI n2)), (0, .ref (ad 135)), (1, .int (nI q))] dX8_layProduct_346 (j := 2) rfl (inc_n p 1) (by decide) rfl ?_
                                      refine r_goto C 263 dX8_layProduct_349 (by decide) ?_
                                      refine r_lv (lv2 := [(7, .int (nI (p + 1))), (6, .int (nI k)), (5, .int (bI (fpB (M.1 136) (fun p => M.1 138 (55 * q + p)) n2 d2 k (fkB (M.1 136) (fun p => M.1 138 (55 * q + p)) n2 d2 dd k) (p + 1)))), (4, .int (bI (wpB (M.1 136) (fun p => M.1 138 (55 * q + p)) n2 (k + 1)))), (3, .int (nI d2)), (2, .int (nI n2)), (0, .ref (ad 135)), (1, .int (nI q))]) [0, 3, 1, 4, 5, 6, 7, 8] rfl ?_
                                      refine r_mem (M2 := (mA M 142 (mdG (emZ (M.1 142)) (M.1 136) (fun p => M.1 138 (55 * q + p)) N dd n2 d2 (k + 1) (k + 1) 0 k (p + 1) 0))) (by rw [mIA]; exact congrArg _ (mdG_l (by omega) (by omega))) ?_
                                      exact ih_p (p + 1) (by omega) (by omega)
                            refine r_lv (lv2 := [(7, .int (nI 0)), (6, .int (nI k)), (5, .int (bI (fpB (M.1 136) (fun p => M.1 138 (55 * q + p)) n2 d2 k (fkB (M.1 136) (fun p => M.1 138 (55 * q + p)) n2 d2 dd k) 0))), (4, .int (bI (wpB (M.1 136) (fun p => M.1 138 (55 * q + p)) n2 (k + 1)))), (3, .int (nI d2)), (2, .int (nI n2)), (0, .ref (ad 135)), (1, .int (nI q))]) [0, 1, 2, 3, 4, 5, 6, 7] rfl ?_
                            refine r_mem (M2 := (mA M 142 (mdG (emZ (M.1 142)) (M.1 136) (fun p => M.1 138 (55 * q + p)) N dd n2 d2 (k + 1) (k + 1) 0 k 0 0))) (by rw [mdG_N (by omega) hNp]) ?_
                            exact Lp9 (dd + 1) 0 (by omega) (by omega)
                          ·
                            have q2 : i / n2 < n := hqn i (by omega)
                            have r2 : i % n2 < n2 := Nat.mod_lt _ (by omega)
                            refine r_aload_n C dX8_layProduct_184 rfl 6 rfl ?_
                            refine r_iload C dX8_layProduct_185 1 rfl ?_
                            refine r_iload_n C dX8_layProduct_187 rfl 5 rfl ?_
                            refine r_idiv C dX8_layProduct_188 (nI_ne0 (by omega) (by omega)) ?_
                            refine r_topi (pk_div (a := k) (d := n2) (by omega) (by omega) (by omega)) ?_
                            refine r_iload C dX8_layProduct_189 0 rfl ?_
                            refine r_iload_n C dX8_layProduct_191 rfl 5 rfl ?_
                            refine r_idiv C dX8_layProduct_192 (nI_ne0 (by omega) (by omega)) ?_
                            refine r_topi (pk_div (a := i) (d := n2) (by omega) (by omega) (by omega)) ?_
                            refine r_pcallV_i (nA := 2) C (Nat.le_of_ble_eq_true rfl) [.int (nI (k / n2)), .int (nI (i / n2))] (c_X8_areJoined l D cs ad (mA M 142 (mdG (emZ (M.1 142)) (M.1 136) (fun p => M.1 138 (55 * q + p)) N dd n2 d2 (k + 1) k i k 0 0)) (k / n2) (i / n2) (by omega)) (tt_V ml_X8_67 im_X8_areJoined se_X8_areJoined in_X8 co_X8_areJoined) ⟨rfl, rfl⟩ ⟨rfl, by decide, by decide, by decide⟩ ⟨Nat.le_of_ble_eq_true rfl, Nat.le_of_ble_eq_true rfl⟩ (by decide) rfl rfl rfl rfl rfl (Nat.le_of_ble_eq_true rfl) dX8_layProduct_193 ?_
                            refine r_topi (w := bI (bt (M.1 136 (10 + (k / n2))) (i / n2))) rfl ?_
                            refine r_ifB_ne C 221 dX8_layProduct_196 (by decide) (fun h196 => ?_) (fun h196 => ?_)
                            ·
                              refine r_iconst C (nI 1) dX8_layProduct_221 (by decide) ?_
                              refine r_goto C 226 dX8_layProduct_222 (by decide) ?_
                              refine r_topi (w := bI (pjB (M.1 136) (fun p => M.1 138 (55 * q + p)) n2 k i)) (bI_on (by simp [pjB, h24, h38, h56, h112, h146, h160, h181, h196])) ?_
                              refine r_istore C [(8, .int (bI (pjB (M.1 136) (fun p => M.1 138 (55 * q + p)) n2 k i))), (7, .int (nI i)), (6, .int (nI k)), (5, .int (bI (fkB (M.1 136) (fun p => M.1 138 (55 * q + p)) n2 d2 dd k))), (4, .int (bI (wpB (M.1 136) (fun p => M.1 138 (55 * q + p)) n2 (k + 1)))), (3, .int (nI d2)), (2, .int (nI n2)), (0, .ref (ad 135)), (1, .int (nI q))] dX8_layProduct_226 (by decide) rfl ?_
                              refine r_aload_n C dX8_layProduct_228 rfl 7 rfl ?_
                              refine r_get C (Cn := RX8) (T := TX8) (N := 18) (id := 135) (by decide) inw_X8 rfl rfl 12 (by decide) rfl fl_X8_28 rfl dX8_layProduct_229 ?_
                              refine r_bipush C (nI 10) dX8_layProduct_232 (by decide) ?_
                              refine r_iload C dX8_layProduct_234 2 rfl ?_
                              refine r_iadd C dX8_layProduct_236 ?_
                              refine r_topi (nI_add 10 k) ?_
                              refine r_dup2_11 C dX8_layProduct_237 rfl rfl ?_
                              refine r_iald C (id := 142) (n := 55) (a := 10 + k) (by decide) rfl (by omega) (by decide) dX8_layProduct_238 ?_
                              refine r_topi (w := (pmI (M.1 136) (fun p => M.1 138 (55 * q + p)) n2 k i)) (mdG_at emZ_z (by omega)) ?_
                              refine r_iload C dX8_layProduct_239 0 rfl ?_
                              refine r_ifB_eq C 251 dX8_layProduct_241 (by decide) (fun h241 => ?_) (fun h241 => ?_)
                              ·
                                refine r_iconst C (nI 0) dX8_layProduct_251 (by decide) ?_
                                refine r_topi (w := (if pjB (M.1 136) (fun p => M.1 138 (55 * q + p)) n2 k i = true then s1 i else nI 0)) (by simp [h24, h38, h56, h112, h146, h160, h181, h196, h241]) ?_
                                refine r_ior C dX8_layProduct_252 ?_
                                refine r_iast C (id := 142) (n := 55) (a := 10 + k) (by decide) (fun _ => rfl) (by omega) (by decide) dX8_layProduct_253 ?_
                                refine r_iinc C (nI (i + 1)) [(7, .int (nI (i + 1))), (8, .int (bI (pjB (M.1 136) (fun p => M.1 138 (55 * q + p)) n2 k i))), (6, .int (nI k)), (5, .int (bI (fkB (M.1 136) (fun p => M.1 138 (55 * q + p)) n2 d2 dd k))), (4, .int (bI (wpB (M.1 136) (fun p => M.1 138 (55 * q + p)) n2 (k + 1)))), (3, .int (nI d2)), (2, .int (nI n2)), (0, .ref (ad 135)), (1, .int (nI q))] dX8_layProduct_254 (j := 1) rfl (inc_n i 1) (by decide) rfl ?_
                                refine r_goto C 173 dX8_layProduct_257 (by decide) ?_
                                refine r_lv (lv2 := [(7, .int (nI (i + 1))), (6, .int (nI k)), (5, .int (bI (fkB (M.1 136) (fun p => M.1 138 (55 * q + p)) n2 d2 dd k))), (4, .int (bI (wpB (M.1 136) (fun p => M.1 138 (55 * q + p)) n2 (k + 1)))), (3, .int (nI d2)), (2, .int (nI n2)), (0, .ref (ad 135)), (1, .int (nI q))]) [0, 2, 3, 4, 5, 6, 7, 8] rfl ?_
                                refine r_mem (M2 := (mA M 142 (mdG (emZ (M.1 142)) (M.1 136) (fun p => M.1 138 (55 * q + p)) N dd n2 d2 (k + 1) k (i + 1) k 0 0))) (by rw [mIA]; exact congrArg _ (mdG_n (by omega))) ?_
                                exact ih_i (i + 1) (by omega) (by omega)
                              ·
                                refine r_iconst C (nI 1) dX8_layProduct_244 (by decide) ?_
                                refine r_iload C dX8_layProduct_245 1 rfl ?_
                                refine r_ishl C dX8_layProduct_247 ?_
                                refine r_topi (w := s1 i) rfl ?_
                                refine r_goto C 252 dX8_layProduct_248 (by decide) ?_
                                refine r_topi (w := (if pjB (M.1 136) (fun p => M.1 138 (55 * q + p)) n2 k i = true then s1 i else nI 0)) (by simp [h24, h38, h56, h112, h146, h160, h181, h196, h241]) ?_
                                refine r_ior C dX8_layProduct_252 ?_
                                refine r_iast C (id := 142) (n := 55) (a := 10 + k) (by decide) (fun _ => rfl) (by omega) (by decide) dX8_layProduct_253 ?_
                                refine r_iinc C (nI (i + 1)) [(7, .int (nI (i + 1))), (8, .int (bI (pjB (M.1 136) (fun p => M.1 138 (55 * q + p)) n2 k i))), (6, .int (nI k)), (5, .int (bI (fkB (M.1 136) (fun p => M.1 138 (55 * q + p)) n2 d2 dd k))), (4, .int (bI (wpB (M.1 136) (fun p => M.1 138 (55 * q + p)) n2 (k + 1)))), (3, .int (nI d2)), (2, .int (nI n2)), (0, .ref (ad 135)), (1, .int (nI q))] dX8_layProduct_254 (j := 1) rfl (inc_n i 1) (by decide) rfl ?_
                                refine r_goto C 173 dX8_layProduct_257 (by decide) ?_
                                refine r_lv (lv2 := [(7, .int (nI (i + 1))), (6, .int (nI k)), (5, .int (bI (fkB (M.1 136) (fun p => M.1 138 (55 * q + p)) n2 d2 dd k))), (4, .int (bI (wpB (M.1 136) (fun p => M.1 138 (55 * q + p)) n2 (k + 1)))), (3, .int (nI d2)), (2, .int (nI n2)), (0, .ref (ad 135)), (1, .int (nI q))]) [0, 2, 3, 4, 5, 6, 7, 8] rfl ?_
                                refine r_mem (M2 := (mA M 142 (mdG (emZ (M.1 142)) (M.1 136) (fun p => M.1 138 (55 * q + p)) N dd n2 d2 (k + 1) k (i + 1) k 0 0))) (by rw [mIA]; exact congrArg _ (mdG_n (by omega))) ?_
                                exact ih_i (i + 1) (by omega) (by omega)
                            ·
                              refine r_aload_n C dX8_layProduct_199 rfl 6 rfl ?_
                              refine r_iload_n C dX8_layProduct_200 rfl 7 rfl ?_
                              refine r_bipush C (nI 10) dX8_layProduct_201 (by decide) ?_
                              refine r_iload C dX8_layProduct_203 1 rfl ?_
                              refine r_iload_n C dX8_layProduct_205 rfl 5 rfl ?_
                              refine r_irem C dX8_layProduct_206 (nI_ne0 (by omega) (by omega)) ?_
                              refine r_topi (pk_rem (a := k) (d := n2) (by omega) (by omega) (by omega)) ?_
                              refine r_iadd C dX8_layProduct_207 ?_
                              refine r_topi (nI_add 10 (k % n2)) ?_
                              refine r_pcallV_i (nA := 2) C (Nat.le_of_ble_eq_true rfl) [.int (nI q), .int (nI (10 + (k % n2)))] (c_X8_other l D cs ad (mA M 142 (mdG (emZ (M.1 142)) (M.1 136) (fun p => M.1 138 (55 * q + p)) N dd n2 d2 (k + 1) k i k 0 0)) q (10 + (k % n2)) (by omega) (by omega)) (tt_V ml_X8_129 im_X8_other se_X8_other in_X8 co_X8_other) ⟨rfl, rfl⟩ ⟨rfl, by decide, by decide, by decide⟩ ⟨Nat.le_of_ble_eq_true rfl, Nat.le_of_ble_eq_true rfl⟩ (by decide) rfl rfl rfl rfl rfl (Nat.le_of_ble_eq_true rfl) dX8_layProduct_208 ?_
                              refine r_topi (w := (M.1 138 (55 * q + (10 + (k % n2))))) rfl ?_
                              refine r_iload C dX8_layProduct_211 0 rfl ?_
                              refine r_iload_n C dX8_layProduct_213 rfl 5 rfl ?_
                              refine r_irem C dX8_layProduct_214 (nI_ne0 (by omega) (by omega)) ?_
                              refine r_topi (pk_rem (a := i) (d := n2) (by omega) (by omega) (by omega)) ?_
                              refine r_pcallS_i (nA := 2) C (Nat.le_of_ble_eq_true rfl) [.int (M.1 138 (55 * q + (10 + (k % n2)))), .int (nI (i % n2))] (c_X8_has l D cs ad (mA M 142 (mdG (emZ (M.1 142)) (M.1 136) (fun p => M.1 138 (55 * q + p)) N dd n2 d2 (k + 1) k i k 0 0)) (M.1 138 (55 * q + (10 + (k % n2)))) (i % n2) ) (tt_S ml_X8_52 st_X8_has in_X8 co_X8_has) ⟨rfl, rfl⟩ ⟨rfl, by decide, by decide, by decide⟩ ⟨Nat.le_of_ble_eq_true rfl, Nat.le_of_ble_eq_true rfl⟩ rfl rfl (Nat.le_of_ble_eq_true rfl) dX8_layProduct_215 ?_
                              refine r_topi (w := bI (bt (M.1 138 (55 * q + (10 + (k % n2)))) (i % n2))) rfl ?_
                              refine r_ifB_eq C 225 dX8_layProduct_218 (by decide) (fun h218 => ?_) (fun h218 => ?_)
                              ·
                                refine r_iconst C (nI 0) dX8_layProduct_225 (by decide) ?_
                                refine r_topi (w := bI (pjB (M.1 136) (fun p => M.1 138 (55 * q + p)) n2 k i)) (bI_off (by simp [pjB, h24, h38, h56, h112, h146, h160, h181, h196, h218])) ?_
                                refine r_istore C [(8, .int (bI (pjB (M.1 136) (fun p => M.1 138 (55 * q + p)) n2 k i))), (7, .int (nI i)), (6, .int (nI k)), (5, .int (bI (fkB (M.1 136) (fun p => M.1 138 (55 * q + p)) n2 d2 dd k))), (4, .int (bI (wpB (M.1 136) (fun p => M.1 138 (55 * q + p)) n2 (k + 1)))), (3, .int (nI d2)), (2, .int (nI n2)), (0, .ref (ad 135)), (1, .int (nI q))] dX8_layProduct_226 (by decide) rfl ?_
                                refine r_aload_n C dX8_layProduct_228 rfl 7 rfl ?_
                                refine r_get C (Cn := RX8) (T := TX8) (N := 18) (id := 135) (by decide) inw_X8 rfl rfl 12 (by decide) rfl fl_X8_28 rfl dX8_layProduct_229 ?_
                                refine r_bipush C (nI 10) dX8_layProduct_232 (by decide) ?_
                                refine r_iload C dX8_layProduct_234 2 rfl ?_
                                refine r_iadd C dX8_layProduct_236 ?_
                                refine r_topi (nI_add 10 k) ?_
                                refine r_dup2_11 C dX8_layProduct_237 rfl rfl ?_
                                refine r_iald C (id := 142) (n := 55) (a := 10 + k) (by decide) rfl (by omega) (by decide) dX8_layProduct_238 ?_
                                refine r_topi (w := (pmI (M.1 136) (fun p => M.1 138 (55 * q + p)) n2 k i)) (mdG_at emZ_z (by omega)) ?_
                                refine r_iload C dX8_layProduct_239 0 rfl ?_
                                refine r_ifB_eq C 251 dX8_layProduct_241 (by decide) (fun h241 => ?_) (fun h241 => ?_)
                                ·
                                  refine r_iconst C (nI 0) dX8_layProduct_251 (by decide) ?_
                                  refine r_topi (w := (if pjB (M.1 136) (fun p => M.1 138 (55 * q + p)) n2 k i = true then s1 i else nI 0)) (by simp [h24, h38, h56, h112, h146, h160, h181, h196, h218, h241]) ?_
                                  refine r_ior C dX8_layProduct_252 ?_
                                  refine r_iast C (id := 142) (n := 55) (a := 10 + k) (by decide) (fun _ => rfl) (by omega) (by decide) dX8_layProduct_253 ?_
                                  refine r_iinc C (nI (i + 1)) [(7, .int (nI (i + 1))), (8, .int (bI (pjB (M.1 136) (fun p => M.1 138 (55 * q + p)) n2 k i))), (6, .int (nI k)), (5, .int (bI (fkB (M.1 136) (fun p => M.1 138 (55 * q + p)) n2 d2 dd k))), (4, .int (bI (wpB (M.1 136) (fun p => M.1 138 (55 * q + p)) n2 (k + 1)))), (3, .int (nI d2)), (2, .int (nI n2)), (0, .ref (ad 135)), (1, .int (nI q))] dX8_layProduct_254 (j := 1) rfl (inc_n i 1) (by decide) rfl ?_
                                  refine r_goto C 173 dX8_layProduct_257 (by decide) ?_
                                  refine r_lv (lv2 := [(7, .int (nI (i + 1))), (6, .int (nI k)), (5, .int (bI (fkB (M.1 136) (fun p => M.1 138 (55 * q + p)) n2 d2 dd k))), (4, .int (bI (wpB (M.1 136) (fun p => M.1 138 (55 * q + p)) n2 (k + 1)))), (3, .int (nI d2)), (2, .int (nI n2)), (0, .ref (ad 135)), (1, .int (nI q))]) [0, 2, 3, 4, 5, 6, 7, 8] rfl ?_
                                  refine r_mem (M2 := (mA M 142 (mdG (emZ (M.1 142)) (M.1 136) (fun p => M.1 138 (55 * q + p)) N dd n2 d2 (k + 1) k (i + 1) k 0 0))) (by rw [mIA]; exact congrArg _ (mdG_n (by omega))) ?_
                                  exact ih_i (i + 1) (by omega) (by omega)
                                ·
                                  refine r_iconst C (nI 1) dX8_layProduct_244 (by decide) ?_
                                  refine r_iload C dX8_layProduct_245 1 rfl ?_
                                  refine r_ishl C dX8_layProduct_247 ?_
                                  refine r_topi (w := s1 i) rfl ?_
                                  refine r_goto C 252 dX8_layProduct_248 (by decide) ?_
                                  refine r_topi (w := (if pjB (M.1 136) (fun p => M.1 138 (55 * q + p)) n2 k i = true then s1 i else nI 0)) (by simp [h24, h38, h56, h112, h146, h160, h181, h196, h218, h241]) ?_
                                  refine r_ior C dX8_layProduct_252 ?_
                                  refine r_iast C (id := 142) (n := 55) (a := 10 + k) (by decide) (fun _ => rfl) (by omega) (by decide) dX8_layProduct_253 ?_
                                  refine r_iinc C (nI (i + 1)) [(7, .int (nI (i + 1))), (8, .int (bI (pjB (M.1 136) (fun p => M.1 138 (55 * q + p)) n2 k i))), (6, .int (nI k)), (5, .int (bI (fkB (M.1 136) (fun p => M.1 138 (55 * q + p)) n2 d2 dd k))), (4, .int (bI (wpB (M.1 136) (fun p => M.1 138 (55 * q + p)) n2 (k + 1)))), (3, .int (nI d2)), (2, .int (nI n2)), (0, .ref (ad 135)), (1, .int (nI q))] dX8_layProduct_254 (j := 1) rfl (inc_n i 1) (by decide) rfl ?_
                                  refine r_goto C 173 dX8_layProduct_257 (by decide) ?_
                                  refine r_lv (lv2 := [(7, .int (nI (i + 1))), (6, .int (nI k)), (5, .int (bI (fkB (M.1 136) (fun p => M.1 138 (55 * q + p)) n2 d2 dd k))), (4, .int (bI (wpB (M.1 136) (fun p => M.1 138 (55 * q + p)) n2 (k + 1)))), (3, .int (nI d2)), (2, .int (nI n2)), (0, .ref (ad 135)), (1, .int (nI q))]) [0, 2, 3, 4, 5, 6, 7, 8] rfl ?_
                                  refine r_mem (M2 := (mA M 142 (mdG (emZ (M.1 142)) (M.1 136) (fun p => M.1 138 (55 * q + p)) N dd n2 d2 (k + 1) k (i + 1) k 0 0))) (by rw [mIA]; exact congrArg _ (mdG_n (by omega))) ?_
                                  exact ih_i (i + 1) (by omega) (by omega)
                              ·
                                refine r_iconst C (nI 1) dX8_layProduct_221 (by decide) ?_
                                refine r_goto C 226 dX8_layProduct_222 (by decide) ?_
                                refine r_topi (w := bI (pjB (M.1 136) (fun p => M.1 138 (55 * q + p)) n2 k i)) (bI_on (by simp [pjB, h24, h38, h56, h112, h146, h160, h181, h196, h218])) ?_
                                refine r_istore C [(8, .int (bI (pjB (M.1 136) (fun p => M.1 138 (55 * q + p)) n2 k i))), (7, .int (nI i)), (6, .int (nI k)), (5, .int (bI (fkB (M.1 136) (fun p => M.1 138 (55 * q + p)) n2 d2 dd k))), (4, .int (bI (wpB (M.1 136) (fun p => M.1 138 (55 * q + p)) n2 (k + 1)))), (3, .int (nI d2)), (2, .int (nI n2)), (0, .ref (ad 135)), (1, .int (nI q))] dX8_layProduct_226 (by decide) rfl ?_
                                refine r_aload_n C dX8_layProduct_228 rfl 7 rfl ?_
                                refine r_get C (Cn := RX8) (T := TX8) (N := 18) (id := 135) (by decide) inw_X8 rfl rfl 12 (by decide) rfl fl_X8_28 rfl dX8_layProduct_229 ?_
                                refine r_bipush C (nI 10) dX8_layProduct_232 (by decide) ?_
                                refine r_iload C dX8_layProduct_234 2 rfl ?_
                                refine r_iadd C dX8_layProduct_236 ?_
                                refine r_topi (nI_add 10 k) ?_
                                refine r_dup2_11 C dX8_layProduct_237 rfl rfl ?_
                                refine r_iald C (id := 142) (n := 55) (a := 10 + k) (by decide) rfl (by omega) (by decide) dX8_layProduct_238 ?_
                                refine r_topi (w := (pmI (M.1 136) (fun p => M.1 138 (55 * q + p)) n2 k i)) (mdG_at emZ_z (by omega)) ?_
                                refine r_iload C dX8_layProduct_239 0 rfl ?_
                                refine r_ifB_eq C 251 dX8_layProduct_241 (by decide) (fun h241 => ?_) (fun h241 => ?_)
                                ·
                                  refine r_iconst C (nI 0) dX8_layProduct_251 (by decide) ?_
                                  refine r_topi (w := (if pjB (M.1 136) (fun p => M.1 138 (55 * q + p)) n2 k i = true then s1 i else nI 0)) (by simp [h24, h38, h56, h112, h146, h160, h181, h196, h218, h241]) ?_
                                  refine r_ior C dX8_layProduct_252 ?_
                                  refine r_iast C (id := 142) (n := 55) (a := 10 + k) (by decide) (fun _ => rfl) (by omega) (by decide) dX8_layProduct_253 ?_
                                  refine r_iinc C (nI (i + 1)) [(7, .int (nI (i + 1))), (8, .int (bI (pjB (M.1 136) (fun p => M.1 138 (55 * q + p)) n2 k i))), (6, .int (nI k)), (5, .int (bI (fkB (M.1 136) (fun p => M.1 138 (55 * q + p)) n2 d2 dd k))), (4, .int (bI (wpB (M.1 136) (fun p => M.1 138 (55 * q + p)) n2 (k + 1)))), (3, .int (nI d2)), (2, .int (nI n2)), (0, .ref (ad 135)), (1, .int (nI q))] dX8_layProduct_254 (j := 1) rfl (inc_n i 1) (by decide) rfl ?_
                                  refine r_goto C 173 dX8_layProduct_257 (by decide) ?_
                                  refine r_lv (lv2 := [(7, .int (nI (i + 1))), (6, .int (nI k)), (5, .int (bI (fkB (M.1 136) (fun p => M.1 138 (55 * q + p)) n2 d2 dd k))), (4, .int (bI (wpB (M.1 136) (fun p => M.1 138 (55 * q + p)) n2 (k + 1)))), (3, .int (nI d2)), (2, .int (nI n2)), (0, .ref (ad 135)), (1, .int (nI q))]) [0, 2, 3, 4, 5, 6, 7, 8] rfl ?_
                                  refine r_mem (M2 := (mA M 142 (mdG (emZ (M.1 142)) (M.1 136) (fun p => M.1 138 (55 * q + p)) N dd n2 d2 (k + 1) k (i + 1) k 0 0))) (by rw [mIA]; exact congrArg _ (mdG_n (by omega))) ?_
                                  exact ih_i (i + 1) (by omega) (by omega)
                                ·
                                  refine r_iconst C (nI 1) dX8_layProduct_244 (by decide) ?_
                                  refine r_iload C dX8_layProduct_245 1 rfl ?_
                                  refine r_ishl C dX8_layProduct_247 ?_
                                  refine r_topi (w := s1 i) rfl ?_
                                  refine r_goto C 252 dX8_layProduct_248 (by decide) ?_
                                  refine r_topi (w := (if pjB (M.1 136) (fun p => M.1 138 (55 * q + p)) n2 k i = true then s1 i else nI 0)) (by simp [h24, h38, h56, h112, h146, h160, h181, h196, h218, h241]) ?_
                                  refine r_ior C dX8_layProduct_252 ?_
                                  refine r_iast C (id := 142) (n := 55) (a := 10 + k) (by decide) (fun _ => rfl) (by omega) (by decide) dX8_layProduct_253 ?_
                                  refine r_iinc C (nI (i + 1)) [(7, .int (nI (i + 1))), (8, .int (bI (pjB (M.1 136) (fun p => M.1 138 (55 * q + p)) n2 k i))), (6, .int (nI k)), (5, .int (bI (fkB (M.1 136) (fun p => M.1 138 (55 * q + p)) n2 d2 dd k))), (4, .int (bI (wpB (M.1 136) (fun p => M.1 138 (55 * q + p)) n2 (k + 1)))), (3, .int (nI d2)), (2, .int (nI n2)), (0, .ref (ad 135)), (1, .int (nI q))] dX8_layProduct_254 (j := 1) rfl (inc_n i 1) (by decide) rfl ?_
                                  refine r_goto C 173 dX8_layProduct_257 (by decide) ?_
                                  refine r_lv (lv2 := [(7, .int (nI (i + 1))), (6, .int (nI k)), (5, .int (bI (fkB (M.1 136) (fun p => M.1 138 (55 * q + p)) n2 d2 dd k))), (4, .int (bI (wpB (M.1 136) (fun p => M.1 138 (55 * q + p)) n2 (k + 1)))), (3, .int (nI d2)), (2, .int (nI n2)), (0, .ref (ad 135)), (1, .int (nI q))]) [0, 2, 3, 4, 5, 6, 7, 8] rfl ?_
                                  refine r_mem (M2 := (mA M 142 (mdG (emZ (M.1 142)) (M.1 136) (fun p => M.1 138 (55 * q + p)) N dd n2 d2 (k + 1) k (i + 1) k 0 0))) (by rw [mIA]; exact congrArg _ (mdG_n (by omega))) ?_
                                  exact ih_i (i + 1) (by omega) (by omega)
                      refine r_lv (lv2 := [(7, .int (nI 0)), (6, .int (nI k)), (5, .int (bI (fkB (M.1 136) (fun p => M.1 138 (55 * q + p)) n2 d2 dd k))), (4, .int (bI (wpB (M.1 136) (fun p => M.1 138 (55 * q + p)) n2 (k + 1)))), (3, .int (nI d2)), (2, .int (nI n2)), (0, .ref (ad 135)), (1, .int (nI q))]) [0, 2, 3, 1, 4, 5, 6, 7] rfl ?_
                      refine r_mem (M2 := (mA M 142 (mdG (emZ (M.1 142)) (M.1 136) (fun p => M.1 138 (55 * q + p)) N dd n2 d2 (k + 1) k 0 k 0 0))) (by rw [mIA]; exact congrArg _ (mdG_w (by omega))) ?_
                      exact Li (N + 1) 0 (by omega) (by omega)
            refine r_lv (lv2 := [(6, .int (nI 0)), (5, .int (bI (fkB (M.1 136) (fun p => M.1 138 (55 * q + p)) n2 d2 dd 0))), (4, .int (bI (wpB (M.1 136) (fun p => M.1 138 (55 * q + p)) n2 0))), (3, .int (nI d2)), (2, .int (nI n2)), (0, .ref (ad 135)), (1, .int (nI q))]) [0, 1, 2, 3, 4, 5, 6] rfl ?_
            refine r_mem (M2 := (mA M 142 (mdG (emZ (M.1 142)) (M.1 136) (fun p => M.1 138 (55 * q + p)) N dd n2 d2 0 0 0 0 0 0))) (by rw [mIA, mIA]; exact congrArg _ mdG_0) ?_
            exact Lo (N + 1) 0 (by omega) (by omega)
          ·
            refine r_aload_n C dX8_layProduct_59 rfl 5 rfl ?_
            refine r_get C (Cn := RX8) (T := TX8) (N := 18) (id := 135) (by decide) inw_X8 rfl rfl 12 (by decide) rfl fl_X8_28 rfl dX8_layProduct_60 ?_
            refine r_iload C dX8_layProduct_63 0 rfl ?_
            refine r_iconst C (nI 0) dX8_layProduct_65 (by decide) ?_
            refine r_iast C (id := 142) (n := 55) (a := k) (by decide) (fun _ => rfl) (by omega) (by decide) dX8_layProduct_66 ?_
            refine r_iinc C (nI (k + 1)) [(6, .int (nI (k + 1))), (5, .int (nI 1)), (4, .int (nI 1)), (3, .int (nI d2)), (2, .int (nI n2)), (0, .ref (ad 135)), (1, .int (nI q))] dX8_layProduct_67 (j := 0) rfl (inc_n k 1) (by decide) rfl ?_
            refine r_goto C 52 dX8_layProduct_70 (by decide) ?_
            refine r_lv (lv2 := [(6, .int (nI (k + 1))), (5, .int (nI 1)), (4, .int (nI 1)), (3, .int (nI d2)), (2, .int (nI n2)), (0, .ref (ad 135)), (1, .int (nI q))]) [0, 1, 2, 3, 4, 5, 6] rfl ?_
            refine r_mem (M2 := (mA M 142 (emA (M.1 142) (k + 1)))) (by rw [mIA, emA_s]) ?_
            exact ih (k + 1) (by omega) (by omega)
      refine r_lv (lv2 := [(6, .int (nI 0)), (5, .int (nI 1)), (4, .int (nI 1)), (3, .int (nI d2)), (2, .int (nI n2)), (0, .ref (ad 135)), (1, .int (nI q))]) [0, 1, 2, 3, 4, 5, 6] rfl ?_
      refine r_mem (M2 := (mA M 142 (emA (M.1 142) 0))) (mA_id (emA_0 _)) ?_
      exact Lz (55 + 1) 0 (by omega) (by omega)
    · exact absurd h4 h38
  · exact absurd h8 h24
