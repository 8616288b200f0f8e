/-! ===== the class: the bound of a graph (written by wip/whole/gen/cls10.py) ===== -/
theorem tb_le {z : Nat → Int32} {n : Nat} {wt U S : Nat → Nat} {H k : Nat} (h : bnH z n wt U S H) (hk : k < n) : wt k * H * U k ≤ 1440000 := by
  have a1 := (h.1 k hk).2
  have a2 := (h.2.1 k hk).2
  have a4 := h.2.2.2.2.1
  have m1 : wt k * H ≤ 9 * 400 := Nat.mul_le_mul a1 a4
  have m2 : wt k * H * U k ≤ 9 * 400 * 400 := Nat.mul_le_mul m1 a2
  exact m2
theorem bc_y {wt U S : Nat → Nat} {H k : Nat} (h : 0 < wt k) : bcS wt U S H (k + 1) = rsS (bcS wt U S H k) (wt k * H * U k) (S k) k := if_pos h
theorem bc_n {wt U S : Nat → Nat} {H k : Nat} (h : ¬ 0 < wt k) : bcS wt U S H (k + 1) = bcS wt U S H k := if_neg h
set_option maxRecDepth 100000 in
set_option maxHeartbeats 4000000 in
theorem c_X0_measureN (l : Launch) (D : va_G) (cs : Nat → ClassId) (ad : Nat → Nat) (M : Mm) (b : Nat) (hb : b < 140) (hb7 : 117 ≤ b) (hbe : ∀ x y, wF cs ad b x y = .inr (0, [.int (x 0), .long (y 1), .long (y 2), .int (x 3)])) (gi : Nat) (hgb : gi ≠ b) (hi1 : gi < 140) (hi2 : ∀ x y, wF cs ad gi x y = .inl (cs 0, 4, .inl x)) (z : Nat → Int32) (n d : Nat) (hg : gv M 0 gi z n d) (hn8 : n ≤ 8) (hup : ¬ upR z n = -1) : ∀ sz : Nat, Met l yX0_measure (.code yX0_measure cX0_measure 9 none :: TT) { frames := 2, cells := 0, slots := 0, locals := 45 } (va_Pc [.ref (ad b), .ref (ad (gO 0)), .ref (ad gi)] (fun U9 => U9.heap.size = sz ∧ wB D cs ad (fA ad sz) M U9 ∧ xX (fA ad sz) U9 U9.heap)) (va_Qv (fun M2 => oB b M M2 ∧ bdN M2 b) (wB D cs ad (fA ad sz)) (fA ad sz)) 0 0 (fA ad sz) := by
  refine sn_V (by decide) (Nat.le_of_ble_eq_true rfl) (fun κ C hN E => ?_)
  refine r_lv (lv2 := [(0, .ref (ad b)), (1, .ref (ad (gO 0))), (2, .ref (ad gi))]) [0, 1, 2] rfl ?_
  refine r_aload_n C dX0_measure_0 rfl 1 rfl ?_
  refine r_aload_n C dX0_measure_1 rfl 2 rfl ?_
  refine r_npcallV_i (nA := 1) C hN (Nat.le_of_ble_eq_true rfl) [.ref (ad gi)] (c_X4_firstMissed l D cs ad M 0  (by decide) gi z n d hg hn8 hi1 hi2) (tt_V ml_X0_48 im_X4_firstMissed se_X4_firstMissed in_X4 co_X4_firstMissed) ⟨rfl, rfl⟩ ⟨rfl, by decide, by decide, by decide⟩ ⟨Nat.le_of_ble_eq_true rfl, Nat.le_of_ble_eq_true rfl⟩ (by simp only [gO, gN, gW, gL, gR, gH] <;> omega) (wF_O cs ad (by decide) _ _) rfl rfl rfl rfl (Nat.le_of_ble_eq_true rfl) dX0_measure_2 ?_
  refine r_iconst C ((-1)) dX0_measure_5 (by decide) ?_
  refine r_icmp_eq C 14 dX0_measure_6 (by decide) (fun h6 => ?_) (fun h6 => ?_)
  · exact absurd h6 hup
  ·
    refine r_aload_n C dX0_measure_9 rfl 0 rfl ?_
    refine r_callV_v (nA := 0) C (Nat.le_of_ble_eq_true rfl) [] (c_X0_tellNone l D cs ad M b  hb hbe) (tt_V ml_X0_34 im_X0_tellNone se_X0_tellNone in_X0 co_X0_tellNone) ⟨rfl, rfl⟩ ⟨rfl, by decide, by decide, by decide⟩ ⟨Nat.le_of_ble_eq_true rfl, Nat.le_of_ble_eq_true rfl⟩ hb (hbe _ _) rfl rfl rfl rfl (Nat.le_of_ble_eq_true rfl) dX0_measure_10 (fun Mu1 qu1 => ?_)
    exact E 0 _ _ _ (Nat.le_of_ble_eq_true rfl) dX0_measure_13 (qu1)
set_option maxRecDepth 100000 in
set_option maxHeartbeats 4000000 in
theorem c_X0_measure (l : Launch) (D : va_G) (cs : Nat → ClassId) (ad : Nat → Nat) (M : Mm) (b : Nat) (hb : b < 140) (hb7 : 117 ≤ b) (hbe : ∀ x y, wF cs ad b x y = .inr (0, [.int (x 0), .long (y 1), .long (y 2), .int (x 3)])) (gi : Nat) (hgb : gi ≠ b) (hi1 : gi < 140) (hi2 : ∀ x y, wF cs ad gi x y = .inl (cs 0, 4, .inl x)) (z : Nat → Int32) (n d : Nat) (hg : gv M 0 gi z n d) (hn8 : n ≤ 8) (hup : upR z n = -1) (wt U S : Nat → Nat) (H : Nat) (hB : bnH z n wt U S H) : ∀ sz : Nat, Met l yX0_measure (.code yX0_measure cX0_measure 9 none :: TT) { frames := 2, cells := 0, slots := 0, locals := 45 } (va_Pc [.ref (ad b), .ref (ad (gO 0)), .ref (ad gi)] (fun U9 => U9.heap.size = sz ∧ wB D cs ad (fA ad sz) M U9 ∧ xX (fA ad sz) U9 U9.heap)) (va_Qv (fun M2 => oB b M M2 ∧ bdV M2 b (bcS wt U S H n)) (wB D cs ad (fA ad sz)) (fA ad sz)) 0 0 (fA ad sz) := by
  have hH9 := hB.2.2.2.2.1
  refine sn_V (by decide) (Nat.le_of_ble_eq_true rfl) (fun κ C hN E => ?_)
  refine r_lv (lv2 := [(0, .ref (ad b)), (1, .ref (ad (gO 0))), (2, .ref (ad gi))]) [0, 1, 2] rfl ?_
  refine r_aload_n C dX0_measure_0 rfl 1 rfl ?_
  refine r_aload_n C dX0_measure_1 rfl 2 rfl ?_
  refine r_npcallV_i (nA := 1) C hN (Nat.le_of_ble_eq_true rfl) [.ref (ad gi)] (c_X4_firstMissed l D cs ad M 0  (by decide) gi z n d hg hn8 hi1 hi2) (tt_V ml_X0_48 im_X4_firstMissed se_X4_firstMissed in_X4 co_X4_firstMissed) ⟨rfl, rfl⟩ ⟨rfl, by decide, by decide, by decide⟩ ⟨Nat.le_of_ble_eq_true rfl, Nat.le_of_ble_eq_true rfl⟩ (by simp only [gO, gN, gW, gL, gR, gH] <;> omega) (wF_O cs ad (by decide) _ _) rfl rfl rfl rfl (Nat.le_of_ble_eq_true rfl) dX0_measure_2 ?_
  refine r_iconst C ((-1)) dX0_measure_5 (by decide) ?_
  refine r_icmp_eq C 14 dX0_measure_6 (by decide) (fun h6 => ?_) (fun h6 => ?_)
  ·
    refine r_aload_n C dX0_measure_14 rfl 0 rfl ?_
    refine r_iconst C (nI 1) dX0_measure_15 (by decide) ?_
    refine r_put C (M2 := (mI M b 0 (nI 1))) (Cn := RX0) (T := TX0) (N := 4) (id := b) hb inw_X0 tyX0_ok nmX0 (hbe _ _) rfl 0 (by decide) rfl fl_X0_9 rfl rfl (by decide) (Nat.le_of_ble_eq_true rfl) (fun j hj => ⟨mI_ne _ hj, rfl⟩) (by rw [mI_eq, mI_2, hbe]; rfl) dX0_measure_16 ?_
    refine r_aload_n C dX0_measure_19 rfl 0 rfl ?_
    refine r_lconst C (lN 0) dX0_measure_20 rfl ?_
    refine r_put C (M2 := (mJ (mI M b 0 (nI 1)) b 1 (lN 0))) (Cn := RX0) (T := TX0) (N := 4) (id := b) hb inw_X0 tyX0_ok nmX0 (hbe _ _) rfl 1 (by decide) rfl fl_X0_17 rfl rfl (rfl) (Nat.le_of_ble_eq_true rfl) (fun j hj => ⟨rfl, mJ_ne _ hj⟩) (by rw [mJ_1, mJ_eq, hbe]; rfl) dX0_measure_21 ?_
    refine r_aload_n C dX0_measure_24 rfl 0 rfl ?_
    refine r_lconst C (lN 1) dX0_measure_25 rfl ?_
    refine r_put C (M2 := (mJ (mJ (mI M b 0 (nI 1)) b 1 (lN 0)) b 2 (lN 1))) (Cn := RX0) (T := TX0) (N := 4) (id := b) hb inw_X0 tyX0_ok nmX0 (hbe _ _) rfl 2 (by decide) rfl fl_X0_21 rfl rfl (rfl) (Nat.le_of_ble_eq_true rfl) (fun j hj => ⟨rfl, mJ_ne _ hj⟩) (by rw [mJ_1, mJ_eq, hbe]; rfl) dX0_measure_26 ?_
    refine r_aload_n C dX0_measure_29 rfl 0 rfl ?_
    refine r_iconst C ((-1)) dX0_measure_30 (by decide) ?_
    refine r_put C (M2 := (mI (mJ (mJ (mI M b 0 (nI 1)) b 1 (lN 0)) b 2 (lN 1)) b 3 (-1))) (Cn := RX0) (T := TX0) (N := 4) (id := b) hb inw_X0 tyX0_ok nmX0 (hbe _ _) rfl 3 (by decide) rfl fl_X0_24 rfl rfl (rfl) (Nat.le_of_ble_eq_true rfl) (fun j hj => ⟨mI_ne _ hj, rfl⟩) (by rw [mI_eq, mI_2, hbe]; rfl) dX0_measure_31 ?_
    refine r_aload_n C dX0_measure_34 rfl 2 rfl ?_
    refine r_aload_n C dX0_measure_35 rfl 2 rfl ?_
    refine r_nest_i (nA := 2) C hN (Nat.le_of_ble_eq_true rfl) (r9 := (pdI ((mI (mJ (mJ (mI M b 0 (nI 1)) b 1 (lN 0)) b 2 (lN 1)) b 3 (-1)).1 gi) ((mI (mJ (mJ (mI M b 0 (nI 1)) b 1 (lN 0)) b 2 (lN 1)) b 3 (-1)).1 gi))) [.ref (ad gi), .ref (ad gi)] (c_X7_product l D cs ad (mI (mJ (mJ (mI M b 0 (nI 1)) b 1 (lN 0)) b 2 (lN 1)) b 3 (-1)) gi gi hi1 (fun _ _ => (hi2 _ _)) hi1 (fun _ _ => (hi2 _ _))) (List.mem_of_getElem? (i := 1) rfl) st_X7_product in_X7 co_X7_product ⟨rfl, rfl⟩ ⟨by decide, by decide, by decide⟩ ⟨Nat.le_of_ble_eq_true rfl, Nat.le_of_ble_eq_true rfl⟩ rfl rfl (Nat.le_of_ble_eq_true rfl) dX0_measure_36 ?_
    refine r_topi (w := nI H) ((pd_hh (gv_k hg hn8 (fun i hi => by rw [mI_ne _ (by omega), mJ_1, mJ_1, mI_ne _ (by omega)]))).trans hB.2.2.2.1) ?_
    refine r_i2l C dX0_measure_39 ?_
    refine r_topl (w := lN H) (nI_l (by omega)) ?_
    refine r_lstore_n C [(3, .long (lN H)), (0, .ref (ad b)), (1, .ref (ad (gO 0))), (2, .ref (ad gi))] dX0_measure_40 rfl (by decide) rfl ?_
    refine r_iconst C (nI 0) dX0_measure_41 (by decide) ?_
    refine r_istore C [(5, .int (nI 0)), (3, .long (lN H)), (0, .ref (ad b)), (1, .ref (ad (gO 0))), (2, .ref (ad gi))] dX0_measure_42 (by decide) rfl ?_
    have Lp : ∀ (f k : Nat) (M3 : Mm), n + 1 ≤ k + f → k ≤ n → (oB b M M3 ∧ bdV M3 b (bcS wt U S H k)) → VV l D cs ad 9 κ 0 M3 44 [(5, .int (nI k)), (3, .long (lN H)), (0, .ref (ad b)), (1, .ref (ad (gO 0))), (2, .ref (ad gi))] [] := by
      intro f
      induction f with
      | zero => intro k M3 hk1 hk2 hI; exact absurd hk1 (by omega)
      | succ f ih =>
        intro k M3 hk1 hk2 hI
        have hg3 : gv M3 0 gi z n d := gv_k hg hn8 (fun i hi => hI.1.1 i (by omega))
        refine r_iload C dX0_measure_44 0 rfl ?_
        refine r_aload_n C dX0_measure_46 rfl 3 rfl ?_
        refine r_get C (Cn := RX4) (T := TX4) (N := 6) (id := (gO 0)) (by simp only [gO, gN, gW, gL, gR, gH] <;> omega) inw_X4 (wF_O cs ad (by decide) _ _) rfl 0 (by decide) rfl fl_X0_56 rfl dX0_measure_47 ?_
        refine r_topi (w := nI n) ((congrFun (hI.1.1 _ (by simp only [gO]; omega)) 0).trans hg.1) ?_
        refine r_icmpN_ge C 117 dX0_measure_50 (by decide) (by omega) (by omega) (fun h50 => ?_) (fun h50 => ?_)
        ·
          have hk9 : n = k := by omega
          subst hk9
          exact E 0 _ _ _ (Nat.le_of_ble_eq_true rfl) dX0_measure_117 (hI)
        ·
          have hw9 := (hB.1 k (by omega)).2
          have hU9 := (hB.2.1 k (by omega)).2
          refine r_aload_n C dX0_measure_53 rfl 3 rfl ?_
          refine r_get C (Cn := RX4) (T := TX4) (N := 6) (id := (gO 0)) (by simp only [gO, gN, gW, gL, gR, gH] <;> omega) inw_X4 (wF_O cs ad (by decide) _ _) rfl 3 (by decide) rfl fl_X0_59 rfl dX0_measure_54 ?_
          refine r_iload C dX0_measure_57 0 rfl ?_
          refine r_iald C (id := (gW 0)) (n := 8) (a := k) (by simp only [gO, gN, gW, gL, gR, gH] <;> omega) (wF_W cs ad (by decide) _ _) (by omega) (by decide) dX0_measure_59 ?_
          refine r_topi (w := nI (wt k)) ((congrFun (hI.1.1 _ (by simp only [gW]; omega)) k).trans ((hg.2.2.2.1 k (by omega)).trans (hB.1 k (by omega)).1)) ?_
          refine r_ifN_le C 111 dX0_measure_60 (by decide) (by omega) (fun h60 => ?_) (fun h60 => ?_)
          ·
            refine r_iinc C (nI (k + 1)) [(5, .int (nI (k + 1))), (3, .long (lN H)), (0, .ref (ad b)), (1, .ref (ad (gO 0))), (2, .ref (ad gi))] dX0_measure_111 (j := 0) rfl (inc_n k 1) (by decide) rfl ?_
            refine r_goto C 44 dX0_measure_114 (by decide) ?_
            refine r_lv (lv2 := [(5, .int (nI (k + 1))), (3, .long (lN H)), (0, .ref (ad b)), (1, .ref (ad (gO 0))), (2, .ref (ad gi))]) [0, 1, 2, 3, 4] rfl ?_
            exact ih (k + 1) _ (by omega) (by omega) ⟨hI.1, by rw [bc_n (by omega)]; exact hI.2⟩
          ·
            refine r_aload_n C dX0_measure_63 rfl 3 rfl ?_
            refine r_get C (Cn := RX4) (T := TX4) (N := 6) (id := (gO 0)) (by simp only [gO, gN, gW, gL, gR, gH] <;> omega) inw_X4 (wF_O cs ad (by decide) _ _) rfl 4 (by decide) rfl fl_X0_62 rfl dX0_measure_64 ?_
            refine r_iload C dX0_measure_67 0 rfl ?_
            refine r_aald C (id := (gL 0)) (n := 8) (a := k) (id2 := (gR 0 k)) (t0 := 4) (by simp only [gO, gN, gW, gL, gR, gH] <;> omega) (wF_L cs ad (by decide) _ _) rfl rfl (by omega) (by decide) (if_pos (by omega)) dX0_measure_69 ?_
            refine r_astore C [(6, .ref (ad (gR 0 k))), (5, .int (nI k)), (3, .long (lN H)), (0, .ref (ad b)), (1, .ref (ad (gO 0))), (2, .ref (ad gi))] dX0_measure_70 (by decide) rfl ?_
            refine r_aload_n C dX0_measure_72 rfl 5 rfl ?_
            refine r_aload C dX0_measure_73 0 rfl ?_
            refine r_nest_i (nA := 2) C hN (Nat.le_of_ble_eq_true rfl) (r9 := (pdI (M3.1 gi) (M3.1 (gR 0 k)))) [.ref (ad gi), .ref (ad (gR 0 k))] (c_X7_product l D cs ad M3 gi (gR 0 k) hi1 (fun _ _ => (hi2 _ _)) (by simp only [gO, gN, gW, gL, gR, gH] <;> omega) (fun _ _ => (wF_R cs ad (by decide) (by omega) _ _))) (List.mem_of_getElem? (i := 1) rfl) st_X7_product in_X7 co_X7_product ⟨rfl, rfl⟩ ⟨by decide, by decide, by decide⟩ ⟨Nat.le_of_ble_eq_true rfl, Nat.le_of_ble_eq_true rfl⟩ rfl rfl (Nat.le_of_ble_eq_true rfl) dX0_measure_75 ?_
            refine r_topi (w := (dotz z 50 (18 + 4 * k))) (pd_hr hg3 (by omega)) ?_
            refine r_i2l C dX0_measure_78 ?_
            refine r_lstore C [(7, .long ((dotz z 50 (18 + 4 * k)).toInt64)), (6, .ref (ad (gR 0 k))), (5, .int (nI k)), (3, .long (lN H)), (0, .ref (ad b)), (1, .ref (ad (gO 0))), (2, .ref (ad gi))] dX0_measure_79 (by decide) rfl ?_
            refine r_aload_n C dX0_measure_81 rfl 4 rfl ?_
            refine r_aload_n C dX0_measure_82 rfl 5 rfl ?_
            refine r_get C (Cn := RX4) (T := TX4) (N := 6) (id := (gO 0)) (by simp only [gO, gN, gW, gL, gR, gH] <;> omega) inw_X4 (wF_O cs ad (by decide) _ _) rfl 3 (by decide) rfl fl_X0_59 rfl dX0_measure_83 ?_
            refine r_iload C dX0_measure_86 2 rfl ?_
            refine r_iald C (id := (gW 0)) (n := 8) (a := k) (by simp only [gO, gN, gW, gL, gR, gH] <;> omega) (wF_W cs ad (by decide) _ _) (by omega) (by decide) dX0_measure_88 ?_
            refine r_topi (w := nI (wt k)) ((congrFun (hI.1.1 _ (by simp only [gW]; omega)) k).trans ((hg.2.2.2.1 k (by omega)).trans (hB.1 k (by omega)).1)) ?_
            refine r_i2l C dX0_measure_89 ?_
            refine r_topl (w := lN (wt k)) (nI_l (by omega)) ?_
            refine r_lload_n C dX0_measure_90 rfl 3 rfl ?_
            refine r_lmul C dX0_measure_91 ?_
            refine r_topl (w := lN ((wt k) * H)) (lN_mul _ _) ?_
            refine r_aload C dX0_measure_92 1 rfl ?_
            refine r_aload C dX0_measure_94 1 rfl ?_
            refine r_nest_i (nA := 2) C hN (Nat.le_of_ble_eq_true rfl) (r9 := (pdI (M3.1 (gR 0 k)) (M3.1 (gR 0 k)))) [.ref (ad (gR 0 k)), .ref (ad (gR 0 k))] (c_X7_product l D cs ad M3 (gR 0 k) (gR 0 k) (by simp only [gO, gN, gW, gL, gR, gH] <;> omega) (fun _ _ => (wF_R cs ad (by decide) (by omega) _ _)) (by simp only [gO, gN, gW, gL, gR, gH] <;> omega) (fun _ _ => (wF_R cs ad (by decide) (by omega) _ _))) (List.mem_of_getElem? (i := 1) rfl) st_X7_product in_X7 co_X7_product ⟨rfl, rfl⟩ ⟨by decide, by decide, by decide⟩ ⟨Nat.le_of_ble_eq_true rfl, Nat.le_of_ble_eq_true rfl⟩ rfl rfl (Nat.le_of_ble_eq_true rfl) dX0_measure_96 ?_
            refine r_topi (w := nI (U k)) ((pd_rr hg3 (by omega) (by omega)).trans (hB.2.1 k (by omega)).1) ?_
            refine r_i2l C dX0_measure_99 ?_
            refine r_topl (w := lN (U k)) (nI_l (by omega)) ?_
            refine r_lmul C dX0_measure_100 ?_
            refine r_topl (w := lN (((wt k) * H) * (U k))) (lN_mul _ _) ?_
            refine r_lload C dX0_measure_101 0 rfl ?_
            refine r_lload C dX0_measure_103 0 rfl ?_
            refine r_lmul C dX0_measure_105 ?_
            refine r_topl (w := lN (S k)) (hB.2.2.1 k (by omega)).1 ?_
            refine r_iload C dX0_measure_106 2 rfl ?_
            refine r_callV_v (nA := 3) C (Nat.le_of_ble_eq_true rfl) [.long (lN (((wt k) * H) * (U k))), .long (lN (S k)), .int (nI k)] (c_X0_raise l D cs ad M3 b  hb hbe (bcS wt U S H k) hI.2 (wt k * H * U k) (S k) k (mul_b (bcS_le hB k (by omega)).1 (hB.2.2.1 k (by omega)).2 (by decide)) (mul_b (tb_le hB (by omega)) (bcS_le hB k (by omega)).2.2.1 (by decide))) (tt_V ml_X0_66 im_X0_raise se_X0_raise in_X0 co_X0_raise) ⟨rfl, rfl⟩ ⟨rfl, by decide, by decide, by decide⟩ ⟨Nat.le_of_ble_eq_true rfl, Nat.le_of_ble_eq_true rfl⟩ hb (hbe _ _) rfl rfl rfl rfl (Nat.le_of_ble_eq_true rfl) dX0_measure_108 (fun Mu1 qu1 => ?_)
            refine r_iinc C (nI (k + 1)) [(5, .int (nI (k + 1))), (7, .long ((dotz z 50 (18 + 4 * k)).toInt64)), (6, .ref (ad (gR 0 k))), (3, .long (lN H)), (0, .ref (ad b)), (1, .ref (ad (gO 0))), (2, .ref (ad gi))] dX0_measure_111 (j := 2) rfl (inc_n k 1) (by decide) rfl ?_
            refine r_goto C 44 dX0_measure_114 (by decide) ?_
            refine r_lv (lv2 := [(5, .int (nI (k + 1))), (3, .long (lN H)), (0, .ref (ad b)), (1, .ref (ad (gO 0))), (2, .ref (ad gi))]) [0, 3, 4, 5, 6] rfl ?_
            exact ih (k + 1) _ (by omega) (by omega) ⟨hI.1.tr qu1.1, by rw [bc_y (by omega)]; exact qu1.2⟩
    refine r_lv (lv2 := [(5, .int (nI 0)), (3, .long (lN H)), (0, .ref (ad b)), (1, .ref (ad (gO 0))), (2, .ref (ad gi))]) [0, 1, 2, 3, 4] rfl ?_
    exact Lp (n + 1) 0 _ (by omega) (by omega) ⟨((((oB.rf b M).I).J).J).I, bd_set⟩
  · exact absurd hup h6
set_option maxRecDepth 100000 in
set_option maxHeartbeats 4000000 in
theorem c_X0_tellOfN (l : Launch) (D : va_G) (cs : Nat → ClassId) (ad : Nat → Nat) (M : Mm) (b : Nat) (hb : b < 140) (hb7 : 117 ≤ b) (hbe : ∀ x y, wF cs ad b x y = .inr (0, [.int (x 0), .long (y 1), .long (y 2), .int (x 3)])) (z : Nat → Int32) (n d : Nat) (hg : gv M 0 (gH 0) z n d) (hn8 : n ≤ 8) (hm : gm z n) (hfu : ¬ fuz z n = -1) : ∀ sz : Nat, Met l yX0_tellOf (.code yX0_tellOf cX0_tellOf 2 none :: TT) { frames := 4, cells := 0, slots := 0, locals := 88 } (va_Pc [.ref (ad b), .ref (ad (gO 0))] (fun U9 => U9.heap.size = sz ∧ wB D cs ad (fA ad sz) M U9 ∧ xX (fA ad sz) U9 U9.heap)) (va_Qv (fun M2 => oB b M M2 ∧ bdN M2 b) (wB D cs ad (fA ad sz)) (fA ad sz)) 0 0 (fA ad sz) := by
  refine sn_V (by decide) (Nat.le_of_ble_eq_true rfl) (fun κ C hN E => ?_)
  refine r_lv (lv2 := [(0, .ref (ad b)), (1, .ref (ad (gO 0)))]) [0, 1] rfl ?_
  refine r_aload_n C dX0_tellOf_0 rfl 1 rfl ?_
  refine r_npcallV_i (nA := 0) C hN (Nat.le_of_ble_eq_true rfl) [] (c_X4_firstUnfit l D cs ad M 0  (by decide) (gH 0) z n d hg hn8 hm) (tt_V ml_X0_28 im_X4_firstUnfit se_X4_firstUnfit in_X4 co_X4_firstUnfit) ⟨rfl, rfl⟩ ⟨rfl, by decide, by decide, by decide⟩ ⟨Nat.le_of_ble_eq_true rfl, Nat.le_of_ble_eq_true rfl⟩ (by simp only [gO, gN, gW, gL, gR, gH] <;> omega) (wF_O cs ad (by decide) _ _) rfl rfl rfl rfl (Nat.le_of_ble_eq_true rfl) dX0_tellOf_1 ?_
  refine r_iconst C ((-1)) dX0_tellOf_4 (by decide) ?_
  refine r_icmp_eq C 13 dX0_tellOf_5 (by decide) (fun h5 => ?_) (fun h5 => ?_)
  · exact absurd h5 hfu
  ·
    refine r_aload_n C dX0_tellOf_8 rfl 0 rfl ?_
    refine r_callV_v (nA := 0) C (Nat.le_of_ble_eq_true rfl) [] (c_X0_tellNone l D cs ad M b  hb hbe) (tt_V ml_X0_34 im_X0_tellNone se_X0_tellNone in_X0 co_X0_tellNone) ⟨rfl, rfl⟩ ⟨rfl, by decide, by decide, by decide⟩ ⟨Nat.le_of_ble_eq_true rfl, Nat.le_of_ble_eq_true rfl⟩ hb (hbe _ _) rfl rfl rfl rfl (Nat.le_of_ble_eq_true rfl) dX0_tellOf_9 (fun Mu1 qu1 => ?_)
    exact E 0 _ _ _ (Nat.le_of_ble_eq_true rfl) dX0_tellOf_12 (qu1)
set_option maxRecDepth 100000 in
set_option maxHeartbeats 4000000 in
theorem c_X0_tellOfM (l : Launch) (D : va_G) (cs : Nat → ClassId) (ad : Nat → Nat) (M : Mm) (b : Nat) (hb : b < 140) (hb7 : 117 ≤ b) (hbe : ∀ x y, wF cs ad b x y = .inr (0, [.int (x 0), .long (y 1), .long (y 2), .int (x 3)])) (z : Nat → Int32) (n d : Nat) (hg : gv M 0 (gH 0) z n d) (hn8 : n ≤ 8) (hm : gm z n) (hfu : fuz z n = -1) (hup : ¬ upR z n = -1) : ∀ sz : Nat, Met l yX0_tellOf (.code yX0_tellOf cX0_tellOf 2 none :: TT) { frames := 4, cells := 0, slots := 0, locals := 88 } (va_Pc [.ref (ad b), .ref (ad (gO 0))] (fun U9 => U9.heap.size = sz ∧ wB D cs ad (fA ad sz) M U9 ∧ xX (fA ad sz) U9 U9.heap)) (va_Qv (fun M2 => oB b M M2 ∧ bdN M2 b) (wB D cs ad (fA ad sz)) (fA ad sz)) 0 0 (fA ad sz) := by
  refine sn_V (by decide) (Nat.le_of_ble_eq_true rfl) (fun κ C hN E => ?_)
  refine r_lv (lv2 := [(0, .ref (ad b)), (1, .ref (ad (gO 0)))]) [0, 1] rfl ?_
  refine r_aload_n C dX0_tellOf_0 rfl 1 rfl ?_
  refine r_npcallV_i (nA := 0) C hN (Nat.le_of_ble_eq_true rfl) [] (c_X4_firstUnfit l D cs ad M 0  (by decide) (gH 0) z n d hg hn8 hm) (tt_V ml_X0_28 im_X4_firstUnfit se_X4_firstUnfit in_X4 co_X4_firstUnfit) ⟨rfl, rfl⟩ ⟨rfl, by decide, by decide, by decide⟩ ⟨Nat.le_of_ble_eq_true rfl, Nat.le_of_ble_eq_true rfl⟩ (by simp only [gO, gN, gW, gL, gR, gH] <;> omega) (wF_O cs ad (by decide) _ _) rfl rfl rfl rfl (Nat.le_of_ble_eq_true rfl) dX0_tellOf_1 ?_
  refine r_iconst C ((-1)) dX0_tellOf_4 (by decide) ?_
  refine r_icmp_eq C 13 dX0_tellOf_5 (by decide) (fun h5 => ?_) (fun h5 => ?_)
  ·
    refine r_aload_n C dX0_tellOf_13 rfl 0 rfl ?_
    refine r_aload_n C dX0_tellOf_14 rfl 1 rfl ?_
    refine r_aload_n C dX0_tellOf_15 rfl 1 rfl ?_
    refine r_get C (Cn := RX4) (T := TX4) (N := 6) (id := (gO 0)) (by simp only [gO, gN, gW, gL, gR, gH] <;> omega) inw_X4 (wF_O cs ad (by decide) _ _) rfl 5 (by decide) rfl fl_X0_37 rfl dX0_tellOf_16 ?_
    refine r_ncallV_v (nA := 2) C hN (Nat.le_of_ble_eq_true rfl) [.ref (ad (gO 0)), .ref (ad (gH 0))] (c_X0_measureN l D cs ad M b  hb hb7 hbe (gH 0) (by simp only [gH]; omega) (by decide) (fun _ _ => wF_H cs ad (by decide) _ _) z n d hg hn8 hup) (tt_V ml_X0_41 im_X0_measure se_X0_measure in_X0 co_X0_measure) ⟨rfl, rfl⟩ ⟨rfl, by decide, by decide, by decide⟩ ⟨Nat.le_of_ble_eq_true rfl, Nat.le_of_ble_eq_true rfl⟩ hb (hbe _ _) rfl rfl rfl rfl (Nat.le_of_ble_eq_true rfl) dX0_tellOf_19 (fun Mu1 qu1 => ?_)
    refine r_aload_n C dX0_tellOf_22 rfl 0 rfl ?_
    refine r_callV_v (nA := 0) C (Nat.le_of_ble_eq_true rfl) [] (c_X0_reduceN l D cs ad Mu1 b  hb hbe qu1.2.1) (tt_V ml_X0_45 im_X0_reduce se_X0_reduce in_X0 co_X0_reduce) ⟨rfl, rfl⟩ ⟨rfl, by decide, by decide, by decide⟩ ⟨Nat.le_of_ble_eq_true rfl, Nat.le_of_ble_eq_true rfl⟩ hb (hbe _ _) rfl rfl rfl rfl (Nat.le_of_ble_eq_true rfl) dX0_tellOf_23 (fun Mu2 qu2 => ?_)
    exact E 0 _ _ _ (Nat.le_of_ble_eq_true rfl) dX0_tellOf_26 (by rw [qu2]; exact qu1)
  · exact absurd hfu h5
set_option maxRecDepth 100000 in
set_option maxHeartbeats 4000000 in
theorem c_X0_tellOf (l : Launch) (D : va_G) (cs : Nat → ClassId) (ad : Nat → Nat) (M : Mm) (b : Nat) (hb : b < 140) (hb7 : 117 ≤ b) (hbe : ∀ x y, wF cs ad b x y = .inr (0, [.int (x 0), .long (y 1), .long (y 2), .int (x 3)])) (z : Nat → Int32) (n d : Nat) (hg : gv M 0 (gH 0) z n d) (hn8 : n ≤ 8) (hm : gm z n) (hfu : fuz z n = -1) (hup : upR z n = -1) (wt U S : Nat → Nat) (H : Nat) (hB : bnH z n wt U S H) : ∀ sz : Nat, Met l yX0_tellOf (.code yX0_tellOf cX0_tellOf 2 none :: TT) { frames := 4, cells := 0, slots := 0, locals := 88 } (va_Pc [.ref (ad b), .ref (ad (gO 0))] (fun U9 => U9.heap.size = sz ∧ wB D cs ad (fA ad sz) M U9 ∧ xX (fA ad sz) U9 U9.heap)) (va_Qv (fun M2 => oB b M M2 ∧ bdV M2 b (rdQ (bcS wt U S H n))) (wB D cs ad (fA ad sz)) (fA ad sz)) 0 0 (fA ad sz) := by
  refine sn_V (by decide) (Nat.le_of_ble_eq_true rfl) (fun κ C hN E => ?_)
  refine r_lv (lv2 := [(0, .ref (ad b)), (1, .ref (ad (gO 0)))]) [0, 1] rfl ?_
  refine r_aload_n C dX0_tellOf_0 rfl 1 rfl ?_
  refine r_npcallV_i (nA := 0) C hN (Nat.le_of_ble_eq_true rfl) [] (c_X4_firstUnfit l D cs ad M 0  (by decide) (gH 0) z n d hg hn8 hm) (tt_V ml_X0_28 im_X4_firstUnfit se_X4_firstUnfit in_X4 co_X4_firstUnfit) ⟨rfl, rfl⟩ ⟨rfl, by decide, by decide, by decide⟩ ⟨Nat.le_of_ble_eq_true rfl, Nat.le_of_ble_eq_true rfl⟩ (by simp only [gO, gN, gW, gL, gR, gH] <;> omega) (wF_O cs ad (by decide) _ _) rfl rfl rfl rfl (Nat.le_of_ble_eq_true rfl) dX0_tellOf_1 ?_
  refine r_iconst C ((-1)) dX0_tellOf_4 (by decide) ?_
  refine r_icmp_eq C 13 dX0_tellOf_5 (by decide) (fun h5 => ?_) (fun h5 => ?_)
  ·
    refine r_aload_n C dX0_tellOf_13 rfl 0 rfl ?_
    refine r_aload_n C dX0_tellOf_14 rfl 1 rfl ?_
    refine r_aload_n C dX0_tellOf_15 rfl 1 rfl ?_
    refine r_get C (Cn := RX4) (T := TX4) (N := 6) (id := (gO 0)) (by simp only [gO, gN, gW, gL, gR, gH] <;> omega) inw_X4 (wF_O cs ad (by decide) _ _) rfl 5 (by decide) rfl fl_X0_37 rfl dX0_tellOf_16 ?_
    refine r_ncallV_v (nA := 2) C hN (Nat.le_of_ble_eq_true rfl) [.ref (ad (gO 0)), .ref (ad (gH 0))] (c_X0_measure l D cs ad M b  hb hb7 hbe (gH 0) (by simp only [gH]; omega) (by decide) (fun _ _ => wF_H cs ad (by decide) _ _) z n d hg hn8 hup wt U S H hB) (tt_V ml_X0_41 im_X0_measure se_X0_measure in_X0 co_X0_measure) ⟨rfl, rfl⟩ ⟨rfl, by decide, by decide, by decide⟩ ⟨Nat.le_of_ble_eq_true rfl, Nat.le_of_ble_eq_true rfl⟩ hb (hbe _ _) rfl rfl rfl rfl (Nat.le_of_ble_eq_true rfl) dX0_tellOf_19 (fun Mu1 qu1 => ?_)
    refine r_aload_n C dX0_tellOf_22 rfl 0 rfl ?_
    refine r_callV_v (nA := 0) C (Nat.le_of_ble_eq_true rfl) [] (c_X0_reduce l D cs ad Mu1 b  hb hbe (bcS wt U S H n) qu1.2 (by have := (bcS_le hB n (Nat.le_refl n)).1; omega) (bcS_le hB n (Nat.le_refl n)).2.1 (by have := (bcS_le hB n (Nat.le_refl n)).2.2.1; omega)) (tt_V ml_X0_45 im_X0_reduce se_X0_reduce in_X0 co_X0_reduce) ⟨rfl, rfl⟩ ⟨rfl, by decide, by decide, by decide⟩ ⟨Nat.le_of_ble_eq_true rfl, Nat.le_of_ble_eq_true rfl⟩ hb (hbe _ _) rfl rfl rfl rfl (Nat.le_of_ble_eq_true rfl) dX0_tellOf_23 (fun Mu2 qu2 => ?_)
    exact E 0 _ _ _ (Nat.le_of_ble_eq_true rfl) dX0_tellOf_26 (⟨qu1.1.tr qu2.1, qu2.2⟩)
  · exact absurd hfu h5
