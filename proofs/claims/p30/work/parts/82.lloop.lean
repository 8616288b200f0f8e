/-! ===== the law's loop (written by wip/p30/gen/lm7.py) ===== -/
set_option maxRecDepth 100000 in
set_option maxHeartbeats 4000000 in
theorem LW_loop (l : Launch) (D : va_G) (cs : Nat → ClassId) (ad : Nat → Nat) {b9 L : Nat} {xs : Nat → Int32} {κ : Kx} (C : CX D cs ad cL_law 8 RL 2048 84000 40 κ) (hN : CN ad κ) (hSc : CSX ad b9 L xs κ) (hL : L ≤ 2048) (h0 : ad 1000 = 0) (kE : ∀ (u : Nat) (M : Mm) (lv : List (Nat × Value)), u ≤ 40 → VV l D cs ad 8 κ u M 128 lv [.int (nI 1)]) : ∀ (f k : Nat) (M : Mm), 40 + 1 ≤ k + f → k ≤ 40 → ST M → VV l D cs ad 8 κ k M 64 [(7, .int (nI k)), (0, .ref b9), (1, .ref (ad 117)), (2, .ref (ad 135)), (3, .ref (ad 136)), (4, .ref (ad 137)), (5, .ref (ad 138)), (6, .ref (ad 139))] [] := by
  intro f
  induction f with
  | zero => intro k M h1 h2; exact absurd h1 (by omega)
  | succ f ih =>
    intro k M h1 h2 hST
    obtain ⟨z, n, d, e, s9, sM, tM, hz2⟩ := hST
    refine r_iload C dL_law_64 0 rfl ?_
    refine r_bipush C (nI 40) dL_law_66 (by decide) ?_
    refine r_icmpN_ge C 127 dL_law_68 (by decide) (by omega) (by omega) (fun h68 => ?_) (fun h68 => ?_)
    ·
      refine r_iconst C (nI 1) dL_law_127 (by decide) ?_
      exact kE k _ _ (by omega)
    ·
      refine r_aload_n C dL_law_71 rfl 2 rfl ?_
      refine r_aload_n C dL_law_72 rfl 1 rfl ?_
      refine r_iconst C (nI 2) dL_law_73 (by decide) ?_
      refine r_iload C dL_law_74 0 rfl ?_
      refine r_imul C dL_law_76 ?_
      refine r_topi (pk_mul 2 k) ?_
      refine r_scallS_i (nA := 2) C hSc (by omega) [.ref b9, .int (nI (2 * k))] (fun sz => c_L_cell l D cs ad M hL (2 * k) (by omega) sz) (tt_S ml_L_101 st_L_cell in_L co_L_cell) ⟨rfl, rfl⟩ ⟨rfl, by decide, by decide, by decide⟩ ⟨Nat.le_of_ble_eq_true rfl, Nat.le_of_ble_eq_true rfl⟩ rfl rfl (Nat.le_of_ble_eq_true rfl) dL_law_77 (fun ru1 Mu1 qu1 => ?_)
      refine r_mem qu1 ?_
      refine r_aload_n C dL_law_80 rfl 1 rfl ?_
      refine r_iconst C (nI 2) dL_law_81 (by decide) ?_
      refine r_iload C dL_law_82 0 rfl ?_
      refine r_imul C dL_law_84 ?_
      refine r_topi (pk_mul 2 k) ?_
      refine r_iconst C (nI 1) dL_law_85 (by decide) ?_
      refine r_iadd C dL_law_86 ?_
      refine r_topi (nI_add (2 * k) 1) ?_
      refine r_scallS_i (nA := 2) C hSc (by omega) [.ref b9, .int (nI ((2 * k) + 1))] (fun sz => c_L_cell l D cs ad M hL ((2 * k) + 1) (by omega) sz) (tt_S ml_L_101 st_L_cell in_L co_L_cell) ⟨rfl, rfl⟩ ⟨rfl, by decide, by decide, by decide⟩ ⟨Nat.le_of_ble_eq_true rfl, Nat.le_of_ble_eq_true rfl⟩ rfl rfl (Nat.le_of_ble_eq_true rfl) dL_law_87 (fun ru2 Mu2 qu2 => ?_)
      refine r_mem qu2 ?_
      refine r_aload_n C dL_law_90 rfl 3 rfl ?_
      refine r_aload_n C dL_law_91 rfl 4 rfl ?_
      refine r_aload C dL_law_92 5 rfl ?_
      refine r_aload C dL_law_94 6 rfl ?_
      refine r_aload C dL_law_96 7 rfl ?_
      refine r_ncallS_i (nA := 8) C hN (by omega) [.ref (ad 117), .int ru1, .int ru2, .ref (ad 135), .ref (ad 136), .ref (ad 137), .ref (ad 138), .ref (ad 139)] (c_L_act l D cs ad M ru1 ru2 z n d s9 e sM tM hz2) (tt_S ml_L_105 st_L_act in_L co_L_act) ⟨rfl, rfl⟩ ⟨rfl, by decide, by decide, by decide⟩ ⟨Nat.le_of_ble_eq_true rfl, Nat.le_of_ble_eq_true rfl⟩ rfl rfl (Nat.le_of_ble_eq_true rfl) dL_law_98 (fun ru3 Mu3 qu3 => ?_)
      obtain ⟨z2, n2, d2, e2, s2, sA, tA, hA2⟩ := qu3.2
      refine r_topi (w := bI true) qu3.1 ?_
      refine r_ifB_eq C 119 dL_law_101 (by decide) (fun h101 => ?_) (fun h101 => ?_)
      · exact absurd (h101.symm.trans (rfl : true = true)) (by decide)
      ·
        refine r_aload_n C dL_law_104 rfl 2 rfl ?_
        refine r_aload_n C dL_law_105 rfl 3 rfl ?_
        refine r_aload_n C dL_law_106 rfl 4 rfl ?_
        refine r_aload C dL_law_107 5 rfl ?_
        refine r_aload C dL_law_109 6 rfl ?_
        refine r_aload C dL_law_111 7 rfl ?_
        refine r_ucallS_i (nA := 6) C hN (by omega) [.ref (ad 117), .ref (ad 135), .ref (ad 136), .ref (ad 137), .ref (ad 138), .ref (ad 139)] (c_L_agree l D cs ad Mu3  z2 n2 d2 s2 e2 sA tA hA2 h0) (tt_S ml_L_109 st_L_agree in_L co_L_agree) ⟨rfl, rfl⟩ ⟨rfl, by decide, by decide, by decide⟩ ⟨Nat.le_of_ble_eq_true rfl, Nat.le_of_ble_eq_true rfl⟩ rfl rfl (Nat.le_of_ble_eq_true rfl) dL_law_113 (fun ru4 Mu4 qu4 => ?_)
        have hST2 := ST_W (M := Mu3) ⟨z2, n2, d2, e2, s2, sA, tA, hA2⟩ qu4.2
        refine r_topi (w := bI true) qu4.1 ?_
        refine r_ifB_ne C 121 dL_law_116 (by decide) (fun h116 => ?_) (fun h116 => ?_)
        ·
          refine r_iinc C (nI (k + 1)) [(7, .int (nI (k + 1))), (0, .ref b9), (1, .ref (ad 117)), (2, .ref (ad 135)), (3, .ref (ad 136)), (4, .ref (ad 137)), (5, .ref (ad 138)), (6, .ref (ad 139))] dL_law_121 (j := 0) rfl (inc_n k 1) (by decide) rfl ?_
          refine r_goto C 64 dL_law_124 (by decide) ?_
          refine r_lv (lv2 := [(7, .int (nI (k + 1))), (0, .ref b9), (1, .ref (ad 117)), (2, .ref (ad 135)), (3, .ref (ad 136)), (4, .ref (ad 137)), (5, .ref (ad 138)), (6, .ref (ad 139))]) [0, 1, 2, 3, 4, 5, 6, 7] rfl ?_
          exact ih (k + 1) _ (by omega) (by omega) hST2
        · exact absurd (h116.symm.trans h101) (by decide)
theorem fi_k {k : Nat} {M3 : Mm} (h : ∀ j, j < k → M3.1 136 j = nI 1) : ∀ j, j < k + 1 → (mI M3 136 k (nI 1)).1 136 j = nI 1 := fun j hj => by
  rw [mI_eq]
  by_cases c : j = k
  · rw [c, upd_e]
  · rw [upd_n _ _ c]; exact h j (by omega)
set_option maxRecDepth 100000 in
set_option maxHeartbeats 4000000 in
theorem LW_start (l : Launch) (D : va_G) (cs : Nat → ClassId) (ad : Nat → Nat) {b9 L : Nat} {xs : Nat → Int32} {κ : Kx} (C : CX D cs ad cL_law 8 RL 2048 84000 40 κ) (hN : CN ad κ) (hSc : CSX ad b9 L xs κ) (hL : L ≤ 2048) (h0 : ad 1000 = 0) (kE : ∀ (u : Nat) (M : Mm) (lv : List (Nat × Value)), u ≤ 40 → VV l D cs ad 8 κ u M 128 lv [.int (nI 1)]) : VV l D cs ad 8 κ 0 M0 33 [(0, .ref b9), (1, .ref (ad 117)), (2, .ref (ad 135)), (3, .ref (ad 136)), (4, .ref (ad 137)), (5, .ref (ad 138)), (6, .ref (ad 139))] [] := by
  refine r_aload_n C dL_law_33 rfl 2 rfl ?_
  refine r_iconst C (nI 0) dL_law_34 (by decide) ?_
  refine r_iconst C (nI 4) dL_law_35 (by decide) ?_
  refine r_iast C (id := 135) (n := 3) (a := 0) (by decide) (fun _ => rfl) (by decide) (by decide) dL_law_36 ?_
  refine r_aload_n C dL_law_37 rfl 2 rfl ?_
  refine r_iconst C (nI 1) dL_law_38 (by decide) ?_
  refine r_iconst C (nI 3) dL_law_39 (by decide) ?_
  refine r_iast C (id := 135) (n := 3) (a := 1) (by decide) (fun _ => rfl) (by decide) (by decide) dL_law_40 ?_
  refine r_nm (fun M1 hM1 => ?_)
  have h10 : M1.1 135 0 = nI 4 := by rw [hM1, mI_eq, upd_n _ _ (by decide), mI_eq, upd_e]
  have h11 : M1.1 135 1 = nI 3 := by rw [hM1, mI_eq, upd_e]
  have h12 : M1.1 135 2 = nI 0 := by rw [hM1, mI_eq, upd_n _ _ (by decide), mI_eq, upd_n _ _ (by decide)]; rfl
  have h13 : ∀ i, i ≠ 135 → M1.1 i = M0.1 i := fun i hi => by rw [hM1, mI_ne _ hi, mI_ne _ hi]
  refine r_iconst C (nI 0) dL_law_41 (by decide) ?_
  refine r_istore C [(7, .int (nI 0)), (0, .ref b9), (1, .ref (ad 117)), (2, .ref (ad 135)), (3, .ref (ad 136)), (4, .ref (ad 137)), (5, .ref (ad 138)), (6, .ref (ad 139))] dL_law_42 (by decide) rfl ?_
  have Lp : ∀ (f_v v : Nat) (M3 : Mm), 4 + 1 ≤ v + f_v → v ≤ 4 → ((∀ i, i ≠ 136 → M3.1 i = M1.1 i) ∧ ∀ j, j < v → M3.1 136 j = nI 1) → VV l D cs ad 8 κ 0 M3 44 [(7, .int (nI v)), (0, .ref b9), (1, .ref (ad 117)), (2, .ref (ad 135)), (3, .ref (ad 136)), (4, .ref (ad 137)), (5, .ref (ad 138)), (6, .ref (ad 139))] [] := by
    intro f_v
    induction f_v with
    | zero => intro v M3 hk1_v hk2_v hI_v; exact absurd hk1_v (by omega)
    | succ f_v ih_v =>
      intro v M3 hk1_v hk2_v hI_v
      refine r_iload C dL_law_44 0 rfl ?_
      refine r_iconst C (nI 4) dL_law_46 (by decide) ?_
      refine r_icmpN_ge C 61 dL_law_47 (by decide) (by omega) (by omega) (fun h47 => ?_) (fun h47 => ?_)
      ·
        have hk9 : 4 = v := by omega
        subst hk9
        refine r_iconst C (nI 0) dL_law_61 (by decide) ?_
        refine r_istore C [(7, .int (nI 0)), (0, .ref b9), (1, .ref (ad 117)), (2, .ref (ad 135)), (3, .ref (ad 136)), (4, .ref (ad 137)), (5, .ref (ad 138)), (6, .ref (ad 139))] dL_law_62 (by decide) rfl ?_
        refine r_lv (lv2 := [(7, .int (nI 0)), (0, .ref b9), (1, .ref (ad 117)), (2, .ref (ad 135)), (3, .ref (ad 136)), (4, .ref (ad 137)), (5, .ref (ad 138)), (6, .ref (ad 139))]) [0, 1, 2, 3, 4, 5, 6, 7] rfl ?_
        exact LW_loop l D cs ad C hN hSc hL h0 kE (40 + 1) 0 M3 (by omega) (by omega) ⟨_, 4, 3, _, 0, CS_0 (fun i hi => (hI_v.1 i (by omega)).trans (h13 i (by omega))), LR_0 ((congrFun (hI_v.1 135 (by decide)) 0).trans h10) ((congrFun (hI_v.1 135 (by decide)) 1).trans h11) hI_v.2 (fun i h1 h2 => (hI_v.1 i (by omega)).trans (h13 i (by omega))), (congrFun (hI_v.1 135 (by decide)) 2).trans h12⟩
      ·
        refine r_aload_n C dL_law_50 rfl 4 rfl ?_
        refine r_iload C dL_law_51 0 rfl ?_
        refine r_iconst C (nI 1) dL_law_53 (by decide) ?_
        refine r_iast C (id := 136) (n := 4) (a := v) (by decide) (fun _ => rfl) (by omega) (by decide) dL_law_54 ?_
        refine r_iinc C (nI (v + 1)) [(7, .int (nI (v + 1))), (0, .ref b9), (1, .ref (ad 117)), (2, .ref (ad 135)), (3, .ref (ad 136)), (4, .ref (ad 137)), (5, .ref (ad 138)), (6, .ref (ad 139))] dL_law_55 (j := 0) rfl (inc_n v 1) (by decide) rfl ?_
        refine r_goto C 44 dL_law_58 (by decide) ?_
        refine r_lv (lv2 := [(7, .int (nI (v + 1))), (0, .ref b9), (1, .ref (ad 117)), (2, .ref (ad 135)), (3, .ref (ad 136)), (4, .ref (ad 137)), (5, .ref (ad 138)), (6, .ref (ad 139))]) [0, 1, 2, 3, 4, 5, 6, 7] rfl ?_
        exact ih_v (v + 1) _ (by omega) (by omega) ⟨fun i hi => (mI_ne _ hi).trans (hI_v.1 i hi), fi_k hI_v.2⟩
  refine r_lv (lv2 := [(7, .int (nI 0)), (0, .ref b9), (1, .ref (ad 117)), (2, .ref (ad 135)), (3, .ref (ad 136)), (4, .ref (ad 137)), (5, .ref (ad 138)), (6, .ref (ad 139))]) [0, 1, 2, 3, 4, 5, 6, 7] rfl ?_
  exact Lp (4 + 1) 0 _ (by omega) (by omega) ⟨fun _ _ => rfl, fun j hj => absurd hj (Nat.not_lt_zero j)⟩
