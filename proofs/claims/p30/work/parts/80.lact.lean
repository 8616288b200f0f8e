/-! ===== the law's method act (written by wip/p30/gen/lm6.py) ===== -/
set_option maxRecDepth 100000 in
set_option maxHeartbeats 4000000 in
theorem aB_begin (l : Launch) (D : va_G) (cs : Nat → ClassId) (ad : Nat → Nat) (M : Mm) (z : Nat → Int32) (n d s : Nat) (e : Nat → Nat → Bool) (sM : CS M z n d e s) (tM : LR M z n d e) {κ : Kx} (C : CX D cs ad cL_act 15 RL 6 220 0 κ) (hN : CN ad κ) (E : eZ l D cs ad 15 cL_act 0 κ (fun r M2 => r = bI true ∧ ST M2)) (x y : Int32) (c a b : Nat) (hc : c < 16) (ha : a < n) (hb : b < n) (hz : M.1 135 2 = nI (mn6 s)) : VV l D cs ad 15 κ 0 M 83 [(10, .int (nI b)), (9, .int (nI a)), (8, .int (nI c)), (0, .ref (ad 117)), (1, .int x), (2, .int y), (3, .ref (ad 135)), (4, .ref (ad 136)), (5, .ref (ad 137)), (6, .ref (ad 138)), (7, .ref (ad 139))] [] := by
  have hq := sM.1
  have hzz := gq_gz hq
  have hzz2 := hzz
  obtain ⟨-, -, hn, hd9, ⟨mk, hk⟩, hsy, hw, hl9, hh9, hl0, hh0⟩ := hzz2
  have hn4 := sM.2.1
  have hn8 : n ≤ 8 := hn.2
  have hn1 : 1 ≤ n := hn.1
  have hm := gk_gm hn8 hk
  have he := hq.2.2.2.2.1
  obtain ⟨hBr, hpo⟩ := gz_B hzz
  obtain ⟨lt, hlt6, hlt⟩ := sM.2.2.2.2.2.2.2.2
  have hs6 := sM.2.2.2.2.2.2.1
  have hs3 := sM.2.2.2.2.2.2.2.1
  have hir := sM.2.2.1
  have hd4 := hd9.2
  refine r_aload_n C dL_act_83 rfl 6 rfl ?_
  refine r_iconst C (nI 0) dL_act_84 (by decide) ?_
  refine r_iald C (id := 135) (n := 3) (a := 0) (by decide) rfl (by decide) (by decide) dL_act_85 ?_
  refine r_topi (w := nI n) (tM).1 ?_
  refine r_istore C [(11, .int (nI n)), (10, .int (nI b)), (9, .int (nI a)), (8, .int (nI c)), (0, .ref (ad 117)), (1, .int x), (2, .int y), (3, .ref (ad 135)), (4, .ref (ad 136)), (5, .ref (ad 137)), (6, .ref (ad 138)), (7, .ref (ad 139))] dL_act_86 (by decide) rfl ?_
  refine r_aload_n C dL_act_88 rfl 7 rfl ?_
  refine r_iconst C (nI 0) dL_act_89 (by decide) ?_
  refine r_iconst C (nI 1) dL_act_90 (by decide) ?_
  refine r_iload_n C dL_act_91 rfl 6 rfl ?_
  refine r_iconst C (nI 4) dL_act_92 (by decide) ?_
  refine r_callS_i (nA := 2) C (Nat.le_of_ble_eq_true rfl) [.int y, .int (nI 4)] (c_L_at l D cs ad M y 4 (by omega) (by omega)) (tt_S ml_L_56 st_L_at in_L co_L_at) ⟨rfl, rfl⟩ ⟨rfl, by decide, by decide, by decide⟩ ⟨Nat.le_of_ble_eq_true rfl, Nat.le_of_ble_eq_true rfl⟩ rfl rfl (Nat.le_of_ble_eq_true rfl) dL_act_93 (fun ru1 Mu1 qu1 => ?_)
  obtain ⟨⟨m1, hm1, er1⟩, eM1⟩ := qu1
  refine r_mem eM1 ?_
  refine r_topi (w := nI m1) er1 ?_
  refine r_iadd C dL_act_96 ?_
  refine r_topi (nI_add 1 m1) ?_
  refine r_iast C (id := 135) (n := 3) (a := 0) (by decide) (fun _ => rfl) (by decide) (by decide) dL_act_97 ?_
  refine r_aload_n C dL_act_98 rfl 7 rfl ?_
  refine r_iconst C (nI 1) dL_act_99 (by decide) ?_
  refine r_iconst C (nI 1) dL_act_100 (by decide) ?_
  refine r_iload_n C dL_act_101 rfl 6 rfl ?_
  refine r_iconst C (nI 2) dL_act_102 (by decide) ?_
  refine r_ishr C dL_act_103 ?_
  refine r_iconst C (nI 4) dL_act_104 (by decide) ?_
  refine r_callS_i (nA := 2) C (Nat.le_of_ble_eq_true rfl) [.int (y >>> ((nI 2) &&& 31)), .int (nI 4)] (c_L_at l D cs ad (mI M 135 0 (nI (1 + m1))) (y >>> ((nI 2) &&& 31)) 4 (by omega) (by omega)) (tt_S ml_L_56 st_L_at in_L co_L_at) ⟨rfl, rfl⟩ ⟨rfl, by decide, by decide, by decide⟩ ⟨Nat.le_of_ble_eq_true rfl, Nat.le_of_ble_eq_true rfl⟩ rfl rfl (Nat.le_of_ble_eq_true rfl) dL_act_105 (fun ru2 Mu2 qu2 => ?_)
  obtain ⟨⟨m2, hm2, er2⟩, eM2⟩ := qu2
  refine r_mem eM2 ?_
  refine r_topi (w := nI m2) er2 ?_
  refine r_iadd C dL_act_108 ?_
  refine r_topi (nI_add 1 m2) ?_
  refine r_iast C (id := 135) (n := 3) (a := 1) (by decide) (fun _ => rfl) (by decide) (by decide) dL_act_109 ?_
  refine r_nm (fun M1 hM1 => ?_)
  have h10 : M1.1 135 0 = nI (1 + m1) := by rw [hM1, mI_eq, upd_n _ _ (by decide), mI_eq, upd_e]
  have h11 : M1.1 135 1 = nI (1 + m2) := by rw [hM1, mI_eq, upd_e]
  have h12 : M1.1 135 2 = nI (mn6 s) := by rw [hM1, mI_eq, upd_n _ _ (by decide), mI_eq, upd_n _ _ (by decide)]; exact hz
  have h13 : ∀ i, i ≠ 135 → M1.1 i = M.1 i := fun i hi => by rw [hM1, mI_ne _ hi, mI_ne _ hi]
  refine r_iconst C (nI 0) dL_act_110 (by decide) ?_
  refine r_istore C [(12, .int (nI 0)), (11, .int (nI n)), (10, .int (nI b)), (9, .int (nI a)), (8, .int (nI c)), (0, .ref (ad 117)), (1, .int x), (2, .int y), (3, .ref (ad 135)), (4, .ref (ad 136)), (5, .ref (ad 137)), (6, .ref (ad 138)), (7, .ref (ad 139))] dL_act_111 (by decide) rfl ?_
  have Lp : ∀ (f_j j : Nat) (M3 : Mm), 16 + 1 ≤ j + f_j → j ≤ 16 → emI j M1 M3 → VV l D cs ad 15 κ 0 M3 113 [(12, .int (nI j)), (11, .int (nI n)), (10, .int (nI b)), (9, .int (nI a)), (8, .int (nI c)), (0, .ref (ad 117)), (1, .int x), (2, .int y), (3, .ref (ad 135)), (4, .ref (ad 136)), (5, .ref (ad 137)), (6, .ref (ad 138)), (7, .ref (ad 139))] [] := by
    intro f_j
    induction f_j with
    | zero => intro j M3 hk1_j hk2_j hI_j; exact absurd hk1_j (by omega)
    | succ f_j ih_j =>
      intro j M3 hk1_j hk2_j hI_j
      refine r_iload C dL_act_113 0 rfl ?_
      refine r_bipush C (nI 16) dL_act_115 (by decide) ?_
      refine r_icmpN_ge C 138 dL_act_117 (by decide) (by omega) (by omega) (fun h117 => ?_) (fun h117 => ?_)
      ·
        have hk9 : 16 = j := by omega
        subst hk9
        refine r_iconst C (nI 0) dL_act_138 (by decide) ?_
        refine r_istore C [(12, .int (nI 0)), (11, .int (nI n)), (10, .int (nI b)), (9, .int (nI a)), (8, .int (nI c)), (0, .ref (ad 117)), (1, .int x), (2, .int y), (3, .ref (ad 135)), (4, .ref (ad 136)), (5, .ref (ad 137)), (6, .ref (ad 138)), (7, .ref (ad 139))] dL_act_139 (by decide) rfl ?_
        have Lq : ∀ (f_v v : Nat) (M4 : Mm), 4 + 1 ≤ v + f_v → v ≤ 4 → emJ v M1 M4 → VV l D cs ad 15 κ 0 M4 141 [(12, .int (nI v)), (11, .int (nI n)), (10, .int (nI b)), (9, .int (nI a)), (8, .int (nI c)), (0, .ref (ad 117)), (1, .int x), (2, .int y), (3, .ref (ad 135)), (4, .ref (ad 136)), (5, .ref (ad 137)), (6, .ref (ad 138)), (7, .ref (ad 139))] [] := by
          intro f_v
          induction f_v with
          | zero => intro v M4 hk1_v hk2_v hI_v; exact absurd hk1_v (by omega)
          | succ f_v ih_v =>
            intro v M4 hk1_v hk2_v hI_v
            refine r_iload C dL_act_141 0 rfl ?_
            refine r_iconst C (nI 4) dL_act_143 (by decide) ?_
            refine r_icmpN_ge C 165 dL_act_144 (by decide) (by omega) (by omega) (fun h144 => ?_) (fun h144 => ?_)
            ·
              have hk9 : 4 = v := by omega
              subst hk9
              have gM4 : ∀ i, i < 125 → M4.1 i = M.1 i := fun i hi => (hI_v.1 i (by omega) (by omega) (by omega) (by omega)).trans (h13 i (by omega))
              have sM4 := lk_CS sM gM4
              refine r_aload_n C dL_act_165 rfl 5 rfl ?_
              refine r_aload_n C dL_act_166 rfl 8 rfl ?_
              refine r_iconst C (nI 0) dL_act_167 (by decide) ?_
              refine r_iald C (id := 135) (n := 3) (a := 0) (by decide) rfl (by decide) (by decide) dL_act_168 ?_
              refine r_topi (w := nI (1 + m1)) ((congrFun (hI_v.1 135 (by decide) (by decide) (by decide) (by decide)) 0).trans h10) ?_
              refine r_aload_n C dL_act_169 rfl 8 rfl ?_
              refine r_iconst C (nI 1) dL_act_170 (by decide) ?_
              refine r_iald C (id := 135) (n := 3) (a := 1) (by decide) rfl (by decide) (by decide) dL_act_171 ?_
              refine r_topi (w := nI (1 + m2)) ((congrFun (hI_v.1 135 (by decide) (by decide) (by decide) (by decide)) 1).trans h11) ?_
              refine r_ncallV_i (nA := 2) C hN (Nat.le_of_ble_eq_true rfl) [.int (nI (1 + m1)), .int (nI (1 + m2))] (c_X7_begin l D cs ad M4  z n d sM4.2.2.2.1 hn8 lt ((congrFun (gM4 120 (by decide)) 2).trans hlt) hlt6 s sM4.2.2.2.2.2.2.2.1 hs6 (1 + m1) (1 + m2) (by omega) (by omega) (by omega) (by omega)) (tt_V ml_L_59 im_X7_begin se_X7_begin in_X7 co_X7_begin) ⟨rfl, rfl⟩ ⟨rfl, by decide, by decide, by decide⟩ ⟨Nat.le_of_ble_eq_true rfl, Nat.le_of_ble_eq_true rfl⟩ (by decide) rfl rfl rfl rfl rfl (Nat.le_of_ble_eq_true rfl) dL_act_172 (fun ru3 Mu3 qu3 => ?_)
              refine r_topi (w := nI n) qu3.1 ?_
              refine r_iload C dL_act_175 1 rfl ?_
              refine r_icmpN_ne C 184 dL_act_177 (by decide) (by omega) (by omega) (fun h177 => ?_) (fun h177 => ?_)
              · exact absurd rfl h177
              ·
                refine r_iconst C (nI 1) dL_act_180 (by decide) ?_
                refine r_goto C 185 dL_act_181 (by decide) ?_
                exact E 0 _ _ _ _ (Nat.le_of_ble_eq_true rfl) dL_act_185 rfl (⟨rfl, ST_ch sM4 hlt6 qu3.2 (gq_em (by omega) (by omega) (by omega) (by omega)) (by omega) (fun _ _ => rfl) (em9_54 (by omega)) (LR_em hI_v h10 h11 (by omega)) ((congrFun (hI_v.1 135 (by decide) (by decide) (by decide) (by decide)) 2).trans h12)⟩)
            ·
              refine r_aload C dL_act_147 9 rfl ?_
              refine r_iload C dL_act_149 0 rfl ?_
              refine r_iconst C (nI 1) dL_act_151 (by decide) ?_
              refine r_iast C (id := 136) (n := 4) (a := v) (by decide) (fun _ => rfl) (by omega) (by decide) dL_act_152 ?_
              refine r_aload C dL_act_153 12 rfl ?_
              refine r_iload C dL_act_155 0 rfl ?_
              refine r_iconst C (nI 0) dL_act_157 (by decide) ?_
              refine r_iast C (id := 139) (n := 4) (a := v) (by decide) (fun _ => rfl) (by omega) (by decide) dL_act_158 ?_
              refine r_iinc C (nI (v + 1)) [(12, .int (nI (v + 1))), (11, .int (nI n)), (10, .int (nI b)), (9, .int (nI a)), (8, .int (nI c)), (0, .ref (ad 117)), (1, .int x), (2, .int y), (3, .ref (ad 135)), (4, .ref (ad 136)), (5, .ref (ad 137)), (6, .ref (ad 138)), (7, .ref (ad 139))] dL_act_159 (j := 0) rfl (inc_n v 1) (by decide) rfl ?_
              refine r_goto C 141 dL_act_162 (by decide) ?_
              refine r_lv (lv2 := [(12, .int (nI (v + 1))), (11, .int (nI n)), (10, .int (nI b)), (9, .int (nI a)), (8, .int (nI c)), (0, .ref (ad 117)), (1, .int x), (2, .int y), (3, .ref (ad 135)), (4, .ref (ad 136)), (5, .ref (ad 137)), (6, .ref (ad 138)), (7, .ref (ad 139))]) [0, 1, 2, 3, 4, 5, 6, 7, 8, 9, 10, 11, 12] rfl ?_
              exact ih_v (v + 1) _ (by omega) (by omega) (em_u hI_v)
        refine r_lv (lv2 := [(12, .int (nI 0)), (11, .int (nI n)), (10, .int (nI b)), (9, .int (nI a)), (8, .int (nI c)), (0, .ref (ad 117)), (1, .int x), (2, .int y), (3, .ref (ad 135)), (4, .ref (ad 136)), (5, .ref (ad 137)), (6, .ref (ad 138)), (7, .ref (ad 139))]) [0, 1, 2, 3, 4, 5, 6, 7, 8, 9, 10, 11, 12] rfl ?_
        exact Lq (4 + 1) 0 _ (by omega) (by omega) (em_t hI_j)
      ·
        refine r_aload C dL_act_120 10 rfl ?_
        refine r_iload C dL_act_122 0 rfl ?_
        refine r_iconst C (nI 0) dL_act_124 (by decide) ?_
        refine r_iast C (id := 137) (n := 20) (a := j) (by decide) (fun _ => rfl) (by omega) (by decide) dL_act_125 ?_
        refine r_aload C dL_act_126 11 rfl ?_
        refine r_iload C dL_act_128 0 rfl ?_
        refine r_iconst C (nI 0) dL_act_130 (by decide) ?_
        refine r_iast C (id := 138) (n := 20) (a := j) (by decide) (fun _ => rfl) (by omega) (by decide) dL_act_131 ?_
        refine r_iinc C (nI (j + 1)) [(12, .int (nI (j + 1))), (11, .int (nI n)), (10, .int (nI b)), (9, .int (nI a)), (8, .int (nI c)), (0, .ref (ad 117)), (1, .int x), (2, .int y), (3, .ref (ad 135)), (4, .ref (ad 136)), (5, .ref (ad 137)), (6, .ref (ad 138)), (7, .ref (ad 139))] dL_act_132 (j := 0) rfl (inc_n j 1) (by decide) rfl ?_
        refine r_goto C 113 dL_act_135 (by decide) ?_
        refine r_lv (lv2 := [(12, .int (nI (j + 1))), (11, .int (nI n)), (10, .int (nI b)), (9, .int (nI a)), (8, .int (nI c)), (0, .ref (ad 117)), (1, .int x), (2, .int y), (3, .ref (ad 135)), (4, .ref (ad 136)), (5, .ref (ad 137)), (6, .ref (ad 138)), (7, .ref (ad 139))]) [0, 1, 2, 3, 4, 5, 6, 7, 8, 9, 10, 11, 12] rfl ?_
        exact ih_j (j + 1) _ (by omega) (by omega) (em_s hI_j)
  refine r_lv (lv2 := [(12, .int (nI 0)), (11, .int (nI n)), (10, .int (nI b)), (9, .int (nI a)), (8, .int (nI c)), (0, .ref (ad 117)), (1, .int x), (2, .int y), (3, .ref (ad 135)), (4, .ref (ad 136)), (5, .ref (ad 137)), (6, .ref (ad 138)), (7, .ref (ad 139))]) [0, 1, 2, 3, 4, 5, 6, 7, 8, 9, 10, 11, 12] rfl ?_
  exact Lp (16 + 1) 0 _ (by omega) (by omega) ⟨fun _ _ _ => rfl, fun j hj => absurd hj (Nat.not_lt_zero j)⟩
set_option maxRecDepth 100000 in
set_option maxHeartbeats 4000000 in
theorem aB_remove (l : Launch) (D : va_G) (cs : Nat → ClassId) (ad : Nat → Nat) (M : Mm) (z : Nat → Int32) (n d s : Nat) (e : Nat → Nat → Bool) (sM : CS M z n d e s) (tM : LR M z n d e) {κ : Kx} (C : CX D cs ad cL_act 15 RL 6 220 0 κ) (hN : CN ad κ) (E : eZ l D cs ad 15 cL_act 0 κ (fun r M2 => r = bI true ∧ ST M2)) (x y : Int32) (c a b : Nat) (hc : c < 16) (ha : a < n) (hb : b < n) (hz : M.1 135 2 = nI (svd 1 n a b s)) : VV l D cs ad 15 κ 0 M 192 [(10, .int (nI b)), (9, .int (nI a)), (8, .int (nI c)), (0, .ref (ad 117)), (1, .int x), (2, .int y), (3, .ref (ad 135)), (4, .ref (ad 136)), (5, .ref (ad 137)), (6, .ref (ad 138)), (7, .ref (ad 139))] [] := by
  have hq := sM.1
  have hzz := gq_gz hq
  have hzz2 := hzz
  obtain ⟨-, -, hn, hd9, ⟨mk, hk⟩, hsy, hw, hl9, hh9, hl0, hh0⟩ := hzz2
  have hn4 := sM.2.1
  have hn8 : n ≤ 8 := hn.2
  have hn1 : 1 ≤ n := hn.1
  have hm := gk_gm hn8 hk
  have he := hq.2.2.2.2.1
  obtain ⟨hBr, hpo⟩ := gz_B hzz
  obtain ⟨lt, hlt6, hlt⟩ := sM.2.2.2.2.2.2.2.2
  have hs6 := sM.2.2.2.2.2.2.1
  have hs3 := sM.2.2.2.2.2.2.2.1
  have hir := sM.2.2.1
  have hd4 := hd9.2
  refine r_aload_n C dL_act_192 rfl 6 rfl ?_
  refine r_iconst C (nI 0) dL_act_193 (by decide) ?_
  refine r_iald C (id := 135) (n := 3) (a := 0) (by decide) rfl (by decide) (by decide) dL_act_194 ?_
  refine r_topi (w := nI n) tM.1 ?_
  refine r_iconst C (nI 1) dL_act_195 (by decide) ?_
  refine r_icmpN_ne C 201 dL_act_196 (by decide) (by omega) (by omega) (fun h196 => ?_) (fun h196 => ?_)
  ·
    refine r_aload_n C dL_act_201 rfl 6 rfl ?_
    refine r_iconst C (nI 0) dL_act_202 (by decide) ?_
    refine r_dup2_11 C dL_act_203 rfl rfl ?_
    refine r_iald C (id := 135) (n := 3) (a := 0) (by decide) rfl (by decide) (by decide) dL_act_204 ?_
    refine r_topi (w := nI n) tM.1 ?_
    refine r_iconst C (nI 1) dL_act_205 (by decide) ?_
    refine r_isub C dL_act_206 ?_
    refine r_topi (pk_sub (a := n) (b := 1) (by omega)) ?_
    refine r_iast C (id := 135) (n := 3) (a := 0) (by decide) (fun _ => rfl) (by decide) (by decide) dL_act_207 ?_
    refine r_nm (fun M1 hM1 => ?_)
    have h10 : M1.1 135 0 = nI (n - 1) := by rw [hM1, mI_eq, upd_e]
    have h13 : ∀ i, i ≠ 135 → M1.1 i = M.1 i := fun i hi => by rw [hM1, mI_ne _ hi]
    refine r_iload C dL_act_208 1 rfl ?_
    refine r_istore C [(11, .int (nI a)), (10, .int (nI b)), (9, .int (nI a)), (8, .int (nI c)), (0, .ref (ad 117)), (1, .int x), (2, .int y), (3, .ref (ad 135)), (4, .ref (ad 136)), (5, .ref (ad 137)), (6, .ref (ad 138)), (7, .ref (ad 139))] dL_act_210 (by decide) rfl ?_
    have Lp : ∀ (f_v v : Nat) (M3 : Mm), (n - 1) + 1 ≤ v + f_v → v ≤ (n - 1) → (RMI M M1 M3 a v (4 * v) ∧ a ≤ v) → VV l D cs ad 15 κ 0 M3 212 [(11, .int (nI v)), (10, .int (nI b)), (9, .int (nI a)), (8, .int (nI c)), (0, .ref (ad 117)), (1, .int x), (2, .int y), (3, .ref (ad 135)), (4, .ref (ad 136)), (5, .ref (ad 137)), (6, .ref (ad 138)), (7, .ref (ad 139))] [] := by
      intro f_v
      induction f_v with
      | zero => intro v M3 hk1_v hk2_v hI_v; exact absurd hk1_v (by omega)
      | succ f_v ih_v =>
        intro v M3 hk1_v hk2_v hI_v
        refine r_iload C dL_act_212 0 rfl ?_
        refine r_aload_n C dL_act_214 rfl 7 rfl ?_
        refine r_iconst C (nI 0) dL_act_215 (by decide) ?_
        refine r_iald C (id := 135) (n := 3) (a := 0) (by decide) rfl (by decide) (by decide) dL_act_216 ?_
        refine r_topi (w := nI (n - 1)) ((congrFun (hI_v.1.1 135 (by decide) (by decide) (by decide)) 0).trans h10) ?_
        refine r_icmpN_ge C 297 dL_act_217 (by decide) (by omega) (by omega) (fun h217 => ?_) (fun h217 => ?_)
        ·
          have hk9 : (n - 1) = v := by omega
          subst hk9
          refine r_iconst C (nI 0) dL_act_297 (by decide) ?_
          refine r_istore C [(11, .int (nI 0)), (10, .int (nI b)), (9, .int (nI a)), (8, .int (nI c)), (0, .ref (ad 117)), (1, .int x), (2, .int y), (3, .ref (ad 135)), (4, .ref (ad 136)), (5, .ref (ad 137)), (6, .ref (ad 138)), (7, .ref (ad 139))] dL_act_298 (by decide) rfl ?_
          have Lr : ∀ (f_w w : Nat) (M5 : Mm), (n - 1) + 1 ≤ w + f_w → w ≤ (n - 1) → RMC M3 M5 a w 0 → VV l D cs ad 15 κ 0 M5 300 [(11, .int (nI w)), (10, .int (nI b)), (9, .int (nI a)), (8, .int (nI c)), (0, .ref (ad 117)), (1, .int x), (2, .int y), (3, .ref (ad 135)), (4, .ref (ad 136)), (5, .ref (ad 137)), (6, .ref (ad 138)), (7, .ref (ad 139))] [] := by
            intro f_w
            induction f_w with
            | zero => intro w M5 hk1_w hk2_w hI_w; exact absurd hk1_w (by omega)
            | succ f_w ih_w =>
              intro w M5 hk1_w hk2_w hI_w
              have h5z : M5.1 135 0 = nI (n - 1) := by rw [hI_w.1.1 135 (by decide), hI_v.1.1 135 (by decide) (by decide) (by decide)]; exact h10
              refine r_iload C dL_act_300 0 rfl ?_
              refine r_aload_n C dL_act_302 rfl 7 rfl ?_
              refine r_iconst C (nI 0) dL_act_303 (by decide) ?_
              refine r_iald C (id := 135) (n := 3) (a := 0) (by decide) rfl (by decide) (by decide) dL_act_304 ?_
              refine r_topi (w := nI (n - 1)) h5z ?_
              refine r_icmpN_ge C 352 dL_act_305 (by decide) (by omega) (by omega) (fun h305 => ?_) (fun h305 => ?_)
              ·
                have hk9 : (n - 1) = w := by omega
                subst hk9
                have gM5 : ∀ i, i < 125 → M5.1 i = M.1 i := fun i hi => by rw [hI_w.1.1 i (by omega), hI_v.1.1 i (by omega) (by omega) (by omega)]; exact h13 i (by omega)
                have sM5 := lk_CS sM gM5
                have z5 : ∀ k, k ≠ 0 → M5.1 135 k = M.1 135 k := fun k hk9 => by rw [hI_w.1.1 135 (by decide), hI_v.1.1 135 (by decide) (by decide) (by decide), hM1, mI_eq, upd_n _ _ hk9]
                refine r_aload_n C dL_act_352 rfl 4 rfl ?_
                refine r_iload C dL_act_353 2 rfl ?_
                refine r_ncallV_i (nA := 1) C hN (Nat.le_of_ble_eq_true rfl) [.int (nI a)] (c_X7_remove l D cs ad M5  z n d sM5.2.2.2.1 hn8 lt ((congrFun (gM5 120 (by decide)) 2).trans hlt) hlt6 s sM5.2.2.2.2.2.2.2.1 hs6 hm a ha (by omega)) (tt_V ml_L_62 im_X7_remove se_X7_remove in_X7 co_X7_remove) ⟨rfl, rfl⟩ ⟨rfl, by decide, by decide, by decide⟩ ⟨Nat.le_of_ble_eq_true rfl, Nat.le_of_ble_eq_true rfl⟩ (by decide) rfl rfl rfl rfl rfl (Nat.le_of_ble_eq_true rfl) dL_act_355 (fun ru1 Mu1 qu1 => ?_)
                refine r_topi (w := nI (n - 1)) qu1.1 ?_
                refine r_aload_n C dL_act_358 rfl 7 rfl ?_
                refine r_iconst C (nI 0) dL_act_359 (by decide) ?_
                refine r_iald C (id := 135) (n := 3) (a := 0) (by decide) rfl (by decide) (by decide) dL_act_360 ?_
                refine r_topi (w := nI (n - 1)) ((congrFun (eM_ch hlt6 qu1.2 135 (by decide)) 0).trans h5z) ?_
                refine r_icmpN_ne C 368 dL_act_361 (by decide) (by omega) (by omega) (fun h361 => ?_) (fun h361 => ?_)
                · exact absurd rfl h361
                ·
                  refine r_iconst C (nI 1) dL_act_364 (by decide) ?_
                  refine r_goto C 369 dL_act_365 (by decide) ?_
                  exact E 0 _ _ _ _ (Nat.le_of_ble_eq_true rfl) dL_act_369 rfl (⟨rfl, ST_ch (e2 := rmE e a) sM5 hlt6 qu1.2 (gq_rm hq ha (by omega)) (by omega) (rmE_i hir (by omega)) (rm_54 hn8) (LR_rm tM hn4 ha (by omega) h5z ((z5 1 (by decide)).trans tM.2.1) (by rw [hI_w.1.1 136 (by decide)]; exact hI_v.1.2.1) (by rw [hI_w.1.1 138 (by decide)]; exact hI_v.1.2.2.1) hI_v.1.2.2.2 hI_w.2 (by rw [hI_w.1.1 139 (by decide), hI_v.1.1 139 (by decide) (by decide) (by decide)]; exact h13 139 (by decide))) ((z5 2 (by decide)).trans (hz.trans (congrArg nI (svd_n (by omega)))))⟩)
              ·
                refine r_iload C dL_act_308 2 rfl ?_
                refine r_istore C [(12, .int (nI a)), (11, .int (nI w)), (10, .int (nI b)), (9, .int (nI a)), (8, .int (nI c)), (0, .ref (ad 117)), (1, .int x), (2, .int y), (3, .ref (ad 135)), (4, .ref (ad 136)), (5, .ref (ad 137)), (6, .ref (ad 138)), (7, .ref (ad 139))] dL_act_310 (by decide) rfl ?_
                have Ls : ∀ (f_q q : Nat) (M6 : Mm), 3 + 1 ≤ q + f_q → q ≤ 3 → (RMC M3 M6 a w q ∧ a ≤ q) → VV l D cs ad 15 κ 0 M6 312 [(12, .int (nI q)), (11, .int (nI w)), (10, .int (nI b)), (9, .int (nI a)), (8, .int (nI c)), (0, .ref (ad 117)), (1, .int x), (2, .int y), (3, .ref (ad 135)), (4, .ref (ad 136)), (5, .ref (ad 137)), (6, .ref (ad 138)), (7, .ref (ad 139))] [] := by
                  intro f_q
                  induction f_q with
                  | zero => intro q M6 hk1_q hk2_q hI_q; exact absurd hk1_q (by omega)
                  | succ f_q ih_q =>
                    intro q M6 hk1_q hk2_q hI_q
                    refine r_iload C dL_act_312 0 rfl ?_
                    refine r_iconst C (nI 3) dL_act_314 (by decide) ?_
                    refine r_icmpN_ge C 346 dL_act_315 (by decide) (by omega) (by omega) (fun h315 => ?_) (fun h315 => ?_)
                    ·
                      have hk9 : 3 = q := by omega
                      subst hk9
                      refine r_iinc C (nI (w + 1)) [(11, .int (nI (w + 1))), (12, .int (nI 3)), (10, .int (nI b)), (9, .int (nI a)), (8, .int (nI c)), (0, .ref (ad 117)), (1, .int x), (2, .int y), (3, .ref (ad 135)), (4, .ref (ad 136)), (5, .ref (ad 137)), (6, .ref (ad 138)), (7, .ref (ad 139))] dL_act_346 (j := 1) rfl (inc_n w 1) (by decide) rfl ?_
                      refine r_goto C 300 dL_act_349 (by decide) ?_
                      refine r_lv (lv2 := [(11, .int (nI (w + 1))), (10, .int (nI b)), (9, .int (nI a)), (8, .int (nI c)), (0, .ref (ad 117)), (1, .int x), (2, .int y), (3, .ref (ad 135)), (4, .ref (ad 136)), (5, .ref (ad 137)), (6, .ref (ad 138)), (7, .ref (ad 139))]) [0, 2, 3, 4, 5, 6, 7, 8, 9, 10, 11, 12] rfl ?_
                      exact ih_w (w + 1) _ (by omega) (by omega) ⟨hI_q.1.1, sc_n hI_q.1.2 (by omega)⟩
                    ·
                      refine r_aload C dL_act_318 10 rfl ?_
                      refine r_iconst C (nI 4) dL_act_320 (by decide) ?_
                      refine r_iload C dL_act_321 1 rfl ?_
                      refine r_imul C dL_act_323 ?_
                      refine r_topi (pk_mul 4 w) ?_
                      refine r_iload C dL_act_324 0 rfl ?_
                      refine r_iadd C dL_act_326 ?_
                      refine r_topi (nI_add (4 * w) q) ?_
                      refine r_aload C dL_act_327 10 rfl ?_
                      refine r_iconst C (nI 4) dL_act_329 (by decide) ?_
                      refine r_iload C dL_act_330 1 rfl ?_
                      refine r_imul C dL_act_332 ?_
                      refine r_topi (pk_mul 4 w) ?_
                      refine r_iload C dL_act_333 0 rfl ?_
                      refine r_iadd C dL_act_335 ?_
                      refine r_topi (nI_add (4 * w) q) ?_
                      refine r_iconst C (nI 1) dL_act_336 (by decide) ?_
                      refine r_iadd C dL_act_337 ?_
                      refine r_topi (nI_add ((4 * w) + q) 1) ?_
                      refine r_iald C (id := 137) (n := 20) (a := ((4 * w) + q) + 1) (by decide) rfl (by omega) (by decide) dL_act_338 ?_
                      refine r_iast C (id := 137) (n := 20) (a := (4 * w) + q) (by decide) (fun _ => rfl) (by omega) (by decide) dL_act_339 ?_
                      refine r_iinc C (nI (q + 1)) [(12, .int (nI (q + 1))), (11, .int (nI w)), (10, .int (nI b)), (9, .int (nI a)), (8, .int (nI c)), (0, .ref (ad 117)), (1, .int x), (2, .int y), (3, .ref (ad 135)), (4, .ref (ad 136)), (5, .ref (ad 137)), (6, .ref (ad 138)), (7, .ref (ad 139))] dL_act_340 (j := 0) rfl (inc_n q 1) (by decide) rfl ?_
                      refine r_goto C 312 dL_act_343 (by decide) ?_
                      refine r_lv (lv2 := [(12, .int (nI (q + 1))), (11, .int (nI w)), (10, .int (nI b)), (9, .int (nI a)), (8, .int (nI c)), (0, .ref (ad 117)), (1, .int x), (2, .int y), (3, .ref (ad 135)), (4, .ref (ad 136)), (5, .ref (ad 137)), (6, .ref (ad 138)), (7, .ref (ad 139))]) [0, 1, 2, 3, 4, 5, 6, 7, 8, 9, 10, 11, 12] rfl ?_
                      exact ih_q (q + 1) _ (by omega) (by omega) ⟨rc_s hI_q.1 hI_q.2 (by omega), by omega⟩
                refine r_lv (lv2 := [(12, .int (nI a)), (11, .int (nI w)), (10, .int (nI b)), (9, .int (nI a)), (8, .int (nI c)), (0, .ref (ad 117)), (1, .int x), (2, .int y), (3, .ref (ad 135)), (4, .ref (ad 136)), (5, .ref (ad 137)), (6, .ref (ad 138)), (7, .ref (ad 139))]) [0, 1, 2, 3, 4, 5, 6, 7, 8, 9, 10, 11, 12] rfl ?_
                exact Ls (3 + 1) a _ (by omega) (by omega) ⟨⟨hI_w.1, sc_a hI_w.2⟩, Nat.le_refl a⟩
          refine r_lv (lv2 := [(11, .int (nI 0)), (10, .int (nI b)), (9, .int (nI a)), (8, .int (nI c)), (0, .ref (ad 117)), (1, .int x), (2, .int y), (3, .ref (ad 135)), (4, .ref (ad 136)), (5, .ref (ad 137)), (6, .ref (ad 138)), (7, .ref (ad 139))]) [0, 1, 2, 3, 4, 5, 6, 7, 8, 9, 10, 11] rfl ?_
          exact Lr ((n - 1) + 1) 0 _ (by omega) (by omega) ⟨o1.rf 137 M3, sc_0 _ a⟩
        ·
          refine r_aload C dL_act_220 8 rfl ?_
          refine r_iload C dL_act_222 0 rfl ?_
          refine r_aload C dL_act_224 8 rfl ?_
          refine r_iload C dL_act_226 0 rfl ?_
          refine r_iconst C (nI 1) dL_act_228 (by decide) ?_
          refine r_iadd C dL_act_229 ?_
          refine r_topi (nI_add v 1) ?_
          refine r_iald C (id := 136) (n := 4) (a := v + 1) (by decide) rfl (by omega) (by decide) dL_act_230 ?_
          refine r_iast C (id := 136) (n := 4) (a := v) (by decide) (fun _ => rfl) (by omega) (by decide) dL_act_231 ?_
          refine r_iconst C (nI 0) dL_act_232 (by decide) ?_
          refine r_istore C [(12, .int (nI 0)), (11, .int (nI v)), (10, .int (nI b)), (9, .int (nI a)), (8, .int (nI c)), (0, .ref (ad 117)), (1, .int x), (2, .int y), (3, .ref (ad 135)), (4, .ref (ad 136)), (5, .ref (ad 137)), (6, .ref (ad 138)), (7, .ref (ad 139))] dL_act_233 (by decide) rfl ?_
          have Lq : ∀ (f k : Nat) (M4 : Mm), 4 + 1 ≤ k + f → k ≤ 4 → RMI M M1 M4 a (v + 1) (4 * v + k) → VV l D cs ad 15 κ 0 M4 235 [(12, .int (nI k)), (11, .int (nI v)), (10, .int (nI b)), (9, .int (nI a)), (8, .int (nI c)), (0, .ref (ad 117)), (1, .int x), (2, .int y), (3, .ref (ad 135)), (4, .ref (ad 136)), (5, .ref (ad 137)), (6, .ref (ad 138)), (7, .ref (ad 139))] [] := by
            intro f
            induction f with
            | zero => intro k M4 hk1 hk2 hI; exact absurd hk1 (by omega)
            | succ f ih =>
              intro k M4 hk1 hk2 hI
              refine r_iload C dL_act_235 0 rfl ?_
              refine r_iconst C (nI 4) dL_act_237 (by decide) ?_
              refine r_icmpN_ge C 291 dL_act_238 (by decide) (by omega) (by omega) (fun h238 => ?_) (fun h238 => ?_)
              ·
                have hk9 : 4 = k := by omega
                subst hk9
                refine r_iinc C (nI (v + 1)) [(11, .int (nI (v + 1))), (12, .int (nI 4)), (10, .int (nI b)), (9, .int (nI a)), (8, .int (nI c)), (0, .ref (ad 117)), (1, .int x), (2, .int y), (3, .ref (ad 135)), (4, .ref (ad 136)), (5, .ref (ad 137)), (6, .ref (ad 138)), (7, .ref (ad 139))] dL_act_291 (j := 1) rfl (inc_n v 1) (by decide) rfl ?_
                refine r_goto C 212 dL_act_294 (by decide) ?_
                refine r_lv (lv2 := [(11, .int (nI (v + 1))), (10, .int (nI b)), (9, .int (nI a)), (8, .int (nI c)), (0, .ref (ad 117)), (1, .int x), (2, .int y), (3, .ref (ad 135)), (4, .ref (ad 136)), (5, .ref (ad 137)), (6, .ref (ad 138)), (7, .ref (ad 139))]) [0, 2, 3, 4, 5, 6, 7, 8, 9, 10, 11, 12] rfl ?_
                exact ih_v (v + 1) _ (by omega) (by omega) ⟨rm_3 hI, by omega⟩
              ·
                refine r_aload C dL_act_241 11 rfl ?_
                refine r_iconst C (nI 4) dL_act_243 (by decide) ?_
                refine r_iload C dL_act_244 1 rfl ?_
                refine r_imul C dL_act_246 ?_
                refine r_topi (pk_mul 4 v) ?_
                refine r_iload C dL_act_247 0 rfl ?_
                refine r_iadd C dL_act_249 ?_
                refine r_topi (nI_add (4 * v) k) ?_
                refine r_aload C dL_act_250 11 rfl ?_
                refine r_iconst C (nI 4) dL_act_252 (by decide) ?_
                refine r_iload C dL_act_253 1 rfl ?_
                refine r_imul C dL_act_255 ?_
                refine r_topi (pk_mul 4 v) ?_
                refine r_iconst C (nI 4) dL_act_256 (by decide) ?_
                refine r_iadd C dL_act_257 ?_
                refine r_topi (nI_add (4 * v) 4) ?_
                refine r_iload C dL_act_258 0 rfl ?_
                refine r_iadd C dL_act_260 ?_
                refine r_topi (nI_add ((4 * v) + 4) k) ?_
                refine r_iald C (id := 138) (n := 20) (a := ((4 * v) + 4) + k) (by decide) rfl (by omega) (by decide) dL_act_261 ?_
                refine r_iast C (id := 138) (n := 20) (a := (4 * v) + k) (by decide) (fun _ => rfl) (by omega) (by decide) dL_act_262 ?_
                refine r_aload C dL_act_263 10 rfl ?_
                refine r_iconst C (nI 4) dL_act_265 (by decide) ?_
                refine r_iload C dL_act_266 1 rfl ?_
                refine r_imul C dL_act_268 ?_
                refine r_topi (pk_mul 4 v) ?_
                refine r_iload C dL_act_269 0 rfl ?_
                refine r_iadd C dL_act_271 ?_
                refine r_topi (nI_add (4 * v) k) ?_
                refine r_aload C dL_act_272 10 rfl ?_
                refine r_iconst C (nI 4) dL_act_274 (by decide) ?_
                refine r_iload C dL_act_275 1 rfl ?_
                refine r_imul C dL_act_277 ?_
                refine r_topi (pk_mul 4 v) ?_
                refine r_iconst C (nI 4) dL_act_278 (by decide) ?_
                refine r_iadd C dL_act_279 ?_
                refine r_topi (nI_add (4 * v) 4) ?_
                refine r_iload C dL_act_280 0 rfl ?_
                refine r_iadd C dL_act_282 ?_
                refine r_topi (nI_add ((4 * v) + 4) k) ?_
                refine r_iald C (id := 137) (n := 20) (a := ((4 * v) + 4) + k) (by decide) rfl (by omega) (by decide) dL_act_283 ?_
                refine r_topi (w := (M4.1 137 (((4 * v) + 4) + k))) (by rw [mI_ne _ (show 137 ≠ 138 from (by decide))]) ?_
                refine r_iast C (id := 137) (n := 20) (a := (4 * v) + k) (by decide) (fun _ => rfl) (by omega) (by decide) dL_act_284 ?_
                refine r_iinc C (nI (k + 1)) [(12, .int (nI (k + 1))), (11, .int (nI v)), (10, .int (nI b)), (9, .int (nI a)), (8, .int (nI c)), (0, .ref (ad 117)), (1, .int x), (2, .int y), (3, .ref (ad 135)), (4, .ref (ad 136)), (5, .ref (ad 137)), (6, .ref (ad 138)), (7, .ref (ad 139))] dL_act_285 (j := 0) rfl (inc_n k 1) (by decide) rfl ?_
                refine r_goto C 235 dL_act_288 (by decide) ?_
                refine r_lv (lv2 := [(12, .int (nI (k + 1))), (11, .int (nI v)), (10, .int (nI b)), (9, .int (nI a)), (8, .int (nI c)), (0, .ref (ad 117)), (1, .int x), (2, .int y), (3, .ref (ad 135)), (4, .ref (ad 136)), (5, .ref (ad 137)), (6, .ref (ad 138)), (7, .ref (ad 139))]) [0, 1, 2, 3, 4, 5, 6, 7, 8, 9, 10, 11, 12] rfl ?_
                exact ih (k + 1) _ (by omega) (by omega) (rm_2 hI hI_v.2)
          refine r_lv (lv2 := [(12, .int (nI 0)), (11, .int (nI v)), (10, .int (nI b)), (9, .int (nI a)), (8, .int (nI c)), (0, .ref (ad 117)), (1, .int x), (2, .int y), (3, .ref (ad 135)), (4, .ref (ad 136)), (5, .ref (ad 137)), (6, .ref (ad 138)), (7, .ref (ad 139))]) [0, 1, 2, 3, 4, 5, 6, 7, 8, 9, 10, 11, 12] rfl ?_
          exact Lq (4 + 1) 0 _ (by omega) (by omega) (rm_1 hI_v.1 hI_v.2)
    refine r_lv (lv2 := [(11, .int (nI a)), (10, .int (nI b)), (9, .int (nI a)), (8, .int (nI c)), (0, .ref (ad 117)), (1, .int x), (2, .int y), (3, .ref (ad 135)), (4, .ref (ad 136)), (5, .ref (ad 137)), (6, .ref (ad 138)), (7, .ref (ad 139))]) [0, 1, 2, 3, 4, 5, 6, 7, 8, 9, 10, 11] rfl ?_
    exact Lp ((n - 1) + 1) a _ (by omega) (by omega) ⟨rm_0 h13, Nat.le_refl a⟩
  ·
    refine r_iconst C (nI 1) dL_act_199 (by decide) ?_
    exact E 0 _ _ _ _ (Nat.le_of_ble_eq_true rfl) dL_act_200 rfl (⟨rfl, ST_0 sM tM (hz.trans (congrArg nI (svd_y (Or.inl ⟨rfl, by omega⟩))))⟩)
set_option maxRecDepth 100000 in
set_option maxHeartbeats 4000000 in
theorem aB_join2 (l : Launch) (D : va_G) (cs : Nat → ClassId) (ad : Nat → Nat) (M : Mm) (z : Nat → Int32) (n d s : Nat) (e : Nat → Nat → Bool) (sM : CS M z n d e s) (tM : LR M z n d e) {κ : Kx} (C : CX D cs ad cL_act 15 RL 6 220 0 κ) (hN : CN ad κ) (E : eZ l D cs ad 15 cL_act 0 κ (fun r M2 => r = bI true ∧ ST M2)) (x y : Int32) (c a b : Nat) (hc : c < 16) (ha : a < n) (hb : b < n) (t9 : Bool) (hab : a ≠ b) (hz : M.1 135 2 = nI (mn6 s)) : VV l D cs ad 15 κ 0 M 403 [(11, .int (nI 0)), (10, .int (nI b)), (9, .int (nI a)), (8, .int (nI c)), (0, .ref (ad 117)), (1, .int x), (2, .int y), (3, .ref (ad 135)), (4, .ref (ad 136)), (5, .ref (ad 137)), (6, .ref (ad 138)), (7, .ref (ad 139))] [.int (bI t9)] := by
  have hq := sM.1
  have hzz := gq_gz hq
  have hzz2 := hzz
  obtain ⟨-, -, hn, hd9, ⟨mk, hk⟩, hsy, hw, hl9, hh9, hl0, hh0⟩ := hzz2
  have hn4 := sM.2.1
  have hn8 : n ≤ 8 := hn.2
  have hn1 : 1 ≤ n := hn.1
  have hm := gk_gm hn8 hk
  have he := hq.2.2.2.2.1
  obtain ⟨hBr, hpo⟩ := gz_B hzz
  obtain ⟨lt, hlt6, hlt⟩ := sM.2.2.2.2.2.2.2.2
  have hs6 := sM.2.2.2.2.2.2.1
  have hs3 := sM.2.2.2.2.2.2.2.1
  have hir := sM.2.2.1
  have hd4 := hd9.2
  refine r_istore C [(12, .int (bI t9)), (11, .int (nI 0)), (10, .int (nI b)), (9, .int (nI a)), (8, .int (nI c)), (0, .ref (ad 117)), (1, .int x), (2, .int y), (3, .ref (ad 135)), (4, .ref (ad 136)), (5, .ref (ad 137)), (6, .ref (ad 138)), (7, .ref (ad 139))] dL_act_403 (by decide) rfl ?_
  refine r_aload C dL_act_405 10 rfl ?_
  refine r_iconst C (nI 4) dL_act_407 (by decide) ?_
  refine r_iload C dL_act_408 3 rfl ?_
  refine r_imul C dL_act_410 ?_
  refine r_topi (pk_mul 4 a) ?_
  refine r_iload C dL_act_411 2 rfl ?_
  refine r_iadd C dL_act_413 ?_
  refine r_topi (nI_add (4 * a) b) ?_
  refine r_iload C dL_act_414 0 rfl ?_
  refine r_iast C (id := 137) (n := 20) (a := (4 * a) + b) (by decide) (fun _ => rfl) (by omega) (by decide) dL_act_416 ?_
  refine r_aload C dL_act_417 10 rfl ?_
  refine r_iconst C (nI 4) dL_act_419 (by decide) ?_
  refine r_iload C dL_act_420 2 rfl ?_
  refine r_imul C dL_act_422 ?_
  refine r_topi (pk_mul 4 b) ?_
  refine r_iload C dL_act_423 3 rfl ?_
  refine r_iadd C dL_act_425 ?_
  refine r_topi (nI_add (4 * b) a) ?_
  refine r_iload C dL_act_426 0 rfl ?_
  refine r_iast C (id := 137) (n := 20) (a := (4 * b) + a) (by decide) (fun _ => rfl) (by omega) (by decide) dL_act_428 ?_
  refine r_nm (fun M4 hM4 => ?_)
  have tM4 := LR_jo tM hn4 ha hb hM4
  have gM4 : ∀ i, i < 125 → M4.1 i = M.1 i := fun i hi => by rw [hM4, mI_ne _ (by omega), mI_ne _ (by omega)]
  have sM4 := lk_CS sM gM4
  refine r_iconst C (nI 0) dL_act_429 (by decide) ?_
  refine r_istore C [(13, .int (nI 0)), (12, .int (bI t9)), (11, .int (nI 0)), (10, .int (nI b)), (9, .int (nI a)), (8, .int (nI c)), (0, .ref (ad 117)), (1, .int x), (2, .int y), (3, .ref (ad 135)), (4, .ref (ad 136)), (5, .ref (ad 137)), (6, .ref (ad 138)), (7, .ref (ad 139))] dL_act_430 (by decide) rfl ?_
  have Lp : ∀ (f_p p : Nat), n + 1 ≤ p + f_p → p ≤ n → VV l D cs ad 15 κ 0 M4 432 [(13, .int (nI p)), (11, .int (sI (fun i => sI (fun j => bI (joE e a b t9 i j)) i) p)), (12, .int (bI t9)), (10, .int (nI b)), (9, .int (nI a)), (8, .int (nI c)), (0, .ref (ad 117)), (1, .int x), (2, .int y), (3, .ref (ad 135)), (4, .ref (ad 136)), (5, .ref (ad 137)), (6, .ref (ad 138)), (7, .ref (ad 139))] [] := by
    intro f_p
    induction f_p with
    | zero => intro p hk1_p hk2_p; exact absurd hk1_p (by omega)
    | succ f_p ih_p =>
      intro p hk1_p hk2_p
      refine r_iload C dL_act_432 0 rfl ?_
      refine r_aload_n C dL_act_434 rfl 9 rfl ?_
      refine r_iconst C (nI 0) dL_act_435 (by decide) ?_
      refine r_iald C (id := 135) (n := 3) (a := 0) (by decide) rfl (by decide) (by decide) dL_act_436 ?_
      refine r_topi (w := nI n) tM4.1 ?_
      refine r_icmpN_ge C 477 dL_act_437 (by decide) (by omega) (by omega) (fun h437 => ?_) (fun h437 => ?_)
      ·
        have hk9 : n = p := by omega
        subst hk9
        refine r_lve (lv2 := [(13, .int (nI n)), (11, .int (edz (joR z a b t9) n)), (12, .int (bI t9)), (10, .int (nI b)), (9, .int (nI a)), (8, .int (nI c)), (0, .ref (ad 117)), (1, .int x), (2, .int y), (3, .ref (ad 135)), (4, .ref (ad 136)), (5, .ref (ad 137)), (6, .ref (ad 138)), (7, .ref (ad 139))]) (by rw [edz_e (e := joE e a b t9) (gq_jo hq ha hb hab) hn4 (joE_i hir hab)]) ?_
        refine r_aload_n C dL_act_477 rfl 6 rfl ?_
        refine r_iload C dL_act_478 4 rfl ?_
        refine r_iload C dL_act_480 3 rfl ?_
        refine r_iload C dL_act_482 2 rfl ?_
        refine r_iconst C (nI 1) dL_act_484 (by decide) ?_
        refine r_icmp_ne C 492 dL_act_485 (by decide) (fun h485 => ?_) (fun h485 => ?_)
        ·
          refine r_iconst C (nI 0) dL_act_492 (by decide) ?_
          refine r_topi (w := bI t9) (by rw [b1_f h485]; rfl) ?_
          refine r_ncallV_i (nA := 3) C hN (Nat.le_of_ble_eq_true rfl) [.int (nI a), .int (nI b), .int (bI t9)] (c_X7_join l D cs ad M4  z n d sM4.2.2.2.1 hn8 lt ((congrFun (gM4 120 (by decide)) 2).trans hlt) hlt6 s sM4.2.2.2.2.2.2.2.1 hs6 a b t9 ha hb hab (gq_gm (gq_jo hq ha hb hab))) (tt_V ml_L_65 im_X7_join se_X7_join in_X7 co_X7_join) ⟨rfl, rfl⟩ ⟨rfl, by decide, by decide, by decide⟩ ⟨Nat.le_of_ble_eq_true rfl, Nat.le_of_ble_eq_true rfl⟩ (by decide) rfl rfl rfl rfl rfl (Nat.le_of_ble_eq_true rfl) dL_act_493 (fun ru1 Mu1 qu1 => ?_)
          refine r_topi (w := (edz (joR z a b t9) n)) qu1.1 ?_
          refine r_iload C dL_act_496 1 rfl ?_
          refine r_icmp_ne C 505 dL_act_498 (by decide) (fun h498 => ?_) (fun h498 => ?_)
          · exact absurd rfl h498
          ·
            refine r_iconst C (nI 1) dL_act_501 (by decide) ?_
            refine r_goto C 506 dL_act_502 (by decide) ?_
            exact E 0 _ _ _ _ (Nat.le_of_ble_eq_true rfl) dL_act_506 rfl (⟨rfl, ST_ch (e2 := joE e a b t9) sM4 hlt6 qu1.2 (gq_jo hq ha hb hab) hn4 (joE_i hir hab) (jo_54 (by omega) (by omega)) tM4 (by rw [hM4, mI_ne _ (by decide), mI_ne _ (by decide)]; exact hz)⟩)
        ·
          refine r_iconst C (nI 1) dL_act_488 (by decide) ?_
          refine r_goto C 493 dL_act_489 (by decide) ?_
          refine r_topi (w := bI t9) (by rw [b1_t h485]; rfl) ?_
          refine r_ncallV_i (nA := 3) C hN (Nat.le_of_ble_eq_true rfl) [.int (nI a), .int (nI b), .int (bI t9)] (c_X7_join l D cs ad M4  z n d sM4.2.2.2.1 hn8 lt ((congrFun (gM4 120 (by decide)) 2).trans hlt) hlt6 s sM4.2.2.2.2.2.2.2.1 hs6 a b t9 ha hb hab (gq_gm (gq_jo hq ha hb hab))) (tt_V ml_L_65 im_X7_join se_X7_join in_X7 co_X7_join) ⟨rfl, rfl⟩ ⟨rfl, by decide, by decide, by decide⟩ ⟨Nat.le_of_ble_eq_true rfl, Nat.le_of_ble_eq_true rfl⟩ (by decide) rfl rfl rfl rfl rfl (Nat.le_of_ble_eq_true rfl) dL_act_493 (fun ru2 Mu2 qu2 => ?_)
          refine r_topi (w := (edz (joR z a b t9) n)) qu2.1 ?_
          refine r_iload C dL_act_496 1 rfl ?_
          refine r_icmp_ne C 505 dL_act_498 (by decide) (fun h498 => ?_) (fun h498 => ?_)
          · exact absurd rfl h498
          ·
            refine r_iconst C (nI 1) dL_act_501 (by decide) ?_
            refine r_goto C 506 dL_act_502 (by decide) ?_
            exact E 0 _ _ _ _ (Nat.le_of_ble_eq_true rfl) dL_act_506 rfl (⟨rfl, ST_ch (e2 := joE e a b t9) sM4 hlt6 qu2.2 (gq_jo hq ha hb hab) hn4 (joE_i hir hab) (jo_54 (by omega) (by omega)) tM4 (by rw [hM4, mI_ne _ (by decide), mI_ne _ (by decide)]; exact hz)⟩)
      ·
        refine r_iconst C (nI 0) dL_act_440 (by decide) ?_
        refine r_lve (lv2 := [(13, .int (nI p)), (11, .int (sI (fun i => sI (fun j => bI (joE e a b t9 i j)) i) p + sI (fun j => bI (joE e a b t9 p j)) 0)), (12, .int (bI t9)), (10, .int (nI b)), (9, .int (nI a)), (8, .int (nI c)), (0, .ref (ad 117)), (1, .int x), (2, .int y), (3, .ref (ad 135)), (4, .ref (ad 136)), (5, .ref (ad 137)), (6, .ref (ad 138)), (7, .ref (ad 139))]) (by rw [show sI (fun i => sI (fun j => bI (joE e a b t9 i j)) i) p + sI (fun j => bI (joE e a b t9 p j)) 0 = sI (fun i => sI (fun j => bI (joE e a b t9 i j)) i) p from Int32.add_zero _]) ?_
        refine r_istore C [(14, .int (nI 0)), (13, .int (nI p)), (11, .int (sI (fun i => sI (fun j => bI (joE e a b t9 i j)) i) p + sI (fun j => bI (joE e a b t9 p j)) 0)), (12, .int (bI t9)), (10, .int (nI b)), (9, .int (nI a)), (8, .int (nI c)), (0, .ref (ad 117)), (1, .int x), (2, .int y), (3, .ref (ad 135)), (4, .ref (ad 136)), (5, .ref (ad 137)), (6, .ref (ad 138)), (7, .ref (ad 139))] dL_act_441 (by decide) rfl ?_
        have Lq : ∀ (f_q q : Nat), p + 1 ≤ q + f_q → q ≤ p → VV l D cs ad 15 κ 0 M4 443 [(14, .int (nI q)), (13, .int (nI p)), (11, .int (sI (fun i => sI (fun j => bI (joE e a b t9 i j)) i) p + sI (fun j => bI (joE e a b t9 p j)) q)), (12, .int (bI t9)), (10, .int (nI b)), (9, .int (nI a)), (8, .int (nI c)), (0, .ref (ad 117)), (1, .int x), (2, .int y), (3, .ref (ad 135)), (4, .ref (ad 136)), (5, .ref (ad 137)), (6, .ref (ad 138)), (7, .ref (ad 139))] [] := by
          intro f_q
          induction f_q with
          | zero => intro q hk1_q hk2_q; exact absurd hk1_q (by omega)
          | succ f_q ih_q =>
            intro q hk1_q hk2_q
            refine r_iload C dL_act_443 0 rfl ?_
            refine r_iload C dL_act_445 1 rfl ?_
            refine r_icmpN_ge C 471 dL_act_447 (by decide) (by omega) (by omega) (fun h447 => ?_) (fun h447 => ?_)
            ·
              have hk9 : p = q := by omega
              subst hk9
              refine r_iinc C (nI (p + 1)) [(13, .int (nI (p + 1))), (14, .int (nI p)), (11, .int (sI (fun i => sI (fun j => bI (joE e a b t9 i j)) i) p + sI (fun j => bI (joE e a b t9 p j)) p)), (12, .int (bI t9)), (10, .int (nI b)), (9, .int (nI a)), (8, .int (nI c)), (0, .ref (ad 117)), (1, .int x), (2, .int y), (3, .ref (ad 135)), (4, .ref (ad 136)), (5, .ref (ad 137)), (6, .ref (ad 138)), (7, .ref (ad 139))] dL_act_471 (j := 1) rfl (inc_n p 1) (by decide) rfl ?_
              refine r_goto C 432 dL_act_474 (by decide) ?_
              refine r_lv (lv2 := [(13, .int (nI (p + 1))), (11, .int (sI (fun i => sI (fun j => bI (joE e a b t9 i j)) i) (p + 1))), (12, .int (bI t9)), (10, .int (nI b)), (9, .int (nI a)), (8, .int (nI c)), (0, .ref (ad 117)), (1, .int x), (2, .int y), (3, .ref (ad 135)), (4, .ref (ad 136)), (5, .ref (ad 137)), (6, .ref (ad 138)), (7, .ref (ad 139))]) [0, 2, 3, 4, 5, 6, 7, 8, 9, 10, 11, 12, 13, 14] rfl ?_
              exact ih_p (p + 1) (by omega) (by omega)
            ·
              refine r_iload C dL_act_450 2 rfl ?_
              refine r_aload C dL_act_452 12 rfl ?_
              refine r_iconst C (nI 4) dL_act_454 (by decide) ?_
              refine r_iload C dL_act_455 1 rfl ?_
              refine r_imul C dL_act_457 ?_
              refine r_topi (pk_mul 4 p) ?_
              refine r_iload C dL_act_458 0 rfl ?_
              refine r_iadd C dL_act_460 ?_
              refine r_topi (nI_add (4 * p) q) ?_
              refine r_iald C (id := 137) (n := 20) (a := (4 * p) + q) (by decide) rfl (by omega) (by decide) dL_act_461 ?_
              refine r_topi (w := bI (joE e a b t9 p q)) (tM4.2.2.2.1 p q (by omega) (by omega)) ?_
              refine r_iadd C dL_act_462 ?_
              refine r_istore C [(11, .int ((sI (fun i => sI (fun j => bI (joE e a b t9 i j)) i) p + sI (fun j => bI (joE e a b t9 p j)) q) + (bI (joE e a b t9 p q)))), (14, .int (nI q)), (13, .int (nI p)), (12, .int (bI t9)), (10, .int (nI b)), (9, .int (nI a)), (8, .int (nI c)), (0, .ref (ad 117)), (1, .int x), (2, .int y), (3, .ref (ad 135)), (4, .ref (ad 136)), (5, .ref (ad 137)), (6, .ref (ad 138)), (7, .ref (ad 139))] dL_act_463 (by decide) rfl ?_
              refine r_lve (lv2 := [(11, .int (sI (fun i => sI (fun j => bI (joE e a b t9 i j)) i) p + sI (fun j => bI (joE e a b t9 p j)) (q + 1))), (14, .int (nI q)), (13, .int (nI p)), (12, .int (bI t9)), (10, .int (nI b)), (9, .int (nI a)), (8, .int (nI c)), (0, .ref (ad 117)), (1, .int x), (2, .int y), (3, .ref (ad 135)), (4, .ref (ad 136)), (5, .ref (ad 137)), (6, .ref (ad 138)), (7, .ref (ad 139))]) (by rw [Int32.add_assoc]; rfl) ?_
              refine r_iinc C (nI (q + 1)) [(14, .int (nI (q + 1))), (11, .int (sI (fun i => sI (fun j => bI (joE e a b t9 i j)) i) p + sI (fun j => bI (joE e a b t9 p j)) (q + 1))), (13, .int (nI p)), (12, .int (bI t9)), (10, .int (nI b)), (9, .int (nI a)), (8, .int (nI c)), (0, .ref (ad 117)), (1, .int x), (2, .int y), (3, .ref (ad 135)), (4, .ref (ad 136)), (5, .ref (ad 137)), (6, .ref (ad 138)), (7, .ref (ad 139))] dL_act_465 (j := 1) rfl (inc_n q 1) (by decide) rfl ?_
              refine r_goto C 443 dL_act_468 (by decide) ?_
              refine r_lv (lv2 := [(14, .int (nI (q + 1))), (13, .int (nI p)), (11, .int (sI (fun i => sI (fun j => bI (joE e a b t9 i j)) i) p + sI (fun j => bI (joE e a b t9 p j)) (q + 1))), (12, .int (bI t9)), (10, .int (nI b)), (9, .int (nI a)), (8, .int (nI c)), (0, .ref (ad 117)), (1, .int x), (2, .int y), (3, .ref (ad 135)), (4, .ref (ad 136)), (5, .ref (ad 137)), (6, .ref (ad 138)), (7, .ref (ad 139))]) [0, 2, 1, 3, 4, 5, 6, 7, 8, 9, 10, 11, 12, 13, 14] rfl ?_
              exact ih_q (q + 1) (by omega) (by omega)
        refine r_lv (lv2 := [(14, .int (nI 0)), (13, .int (nI p)), (11, .int (sI (fun i => sI (fun j => bI (joE e a b t9 i j)) i) p + sI (fun j => bI (joE e a b t9 p j)) 0)), (12, .int (bI t9)), (10, .int (nI b)), (9, .int (nI a)), (8, .int (nI c)), (0, .ref (ad 117)), (1, .int x), (2, .int y), (3, .ref (ad 135)), (4, .ref (ad 136)), (5, .ref (ad 137)), (6, .ref (ad 138)), (7, .ref (ad 139))]) [0, 1, 2, 3, 4, 5, 6, 7, 8, 9, 10, 11, 12, 13, 14] rfl ?_
        exact Lq (p + 1) 0 (by omega) (by omega)
  refine r_lv (lv2 := [(13, .int (nI 0)), (11, .int (sI (fun i => sI (fun j => bI (joE e a b t9 i j)) i) 0)), (12, .int (bI t9)), (10, .int (nI b)), (9, .int (nI a)), (8, .int (nI c)), (0, .ref (ad 117)), (1, .int x), (2, .int y), (3, .ref (ad 135)), (4, .ref (ad 136)), (5, .ref (ad 137)), (6, .ref (ad 138)), (7, .ref (ad 139))]) [0, 2, 1, 3, 4, 5, 6, 7, 8, 9, 10, 11, 12, 13] rfl ?_
  exact Lp (n + 1) 0 (by omega) (by omega)
set_option maxRecDepth 100000 in
set_option maxHeartbeats 4000000 in
theorem aB_join (l : Launch) (D : va_G) (cs : Nat → ClassId) (ad : Nat → Nat) (M : Mm) (z : Nat → Int32) (n d s : Nat) (e : Nat → Nat → Bool) (sM : CS M z n d e s) (tM : LR M z n d e) {κ : Kx} (C : CX D cs ad cL_act 15 RL 6 220 0 κ) (hN : CN ad κ) (E : eZ l D cs ad 15 cL_act 0 κ (fun r M2 => r = bI true ∧ ST M2)) (x y : Int32) (c a b : Nat) (hc : c < 16) (ha : a < n) (hb : b < n) (h24 : 2 ≤ c ∧ c ≤ 4) (hz : M.1 135 2 = nI (svd c n a b s)) : VV l D cs ad 15 κ 0 M 379 [(11, .int (nI 0)), (10, .int (nI b)), (9, .int (nI a)), (8, .int (nI c)), (0, .ref (ad 117)), (1, .int x), (2, .int y), (3, .ref (ad 135)), (4, .ref (ad 136)), (5, .ref (ad 137)), (6, .ref (ad 138)), (7, .ref (ad 139))] [] := by
  have hq := sM.1
  have hzz := gq_gz hq
  have hzz2 := hzz
  obtain ⟨-, -, hn, hd9, ⟨mk, hk⟩, hsy, hw, hl9, hh9, hl0, hh0⟩ := hzz2
  have hn4 := sM.2.1
  have hn8 : n ≤ 8 := hn.2
  have hn1 : 1 ≤ n := hn.1
  have hm := gk_gm hn8 hk
  have he := hq.2.2.2.2.1
  obtain ⟨hBr, hpo⟩ := gz_B hzz
  obtain ⟨lt, hlt6, hlt⟩ := sM.2.2.2.2.2.2.2.2
  have hs6 := sM.2.2.2.2.2.2.1
  have hs3 := sM.2.2.2.2.2.2.2.1
  have hir := sM.2.2.1
  have hd4 := hd9.2
  refine r_iload C dL_act_379 2 rfl ?_
  refine r_iload C dL_act_381 1 rfl ?_
  refine r_icmpN_ne C 388 dL_act_383 (by decide) (by omega) (by omega) (fun h383 => ?_) (fun h383 => ?_)
  ·
    refine r_iload_n C dL_act_388 rfl 6 rfl ?_
    refine r_iconst C (nI 4) dL_act_389 (by decide) ?_
    refine r_ishr C dL_act_390 ?_
    refine r_iconst C (nI 3) dL_act_391 (by decide) ?_
    refine r_callS_i (nA := 2) C (Nat.le_of_ble_eq_true rfl) [.int (y >>> ((nI 4) &&& 31)), .int (nI 3)] (c_L_at l D cs ad M (y >>> ((nI 4) &&& 31)) 3 (by omega) (by omega)) (tt_S ml_L_56 st_L_at in_L co_L_at) ⟨rfl, rfl⟩ ⟨rfl, by decide, by decide, by decide⟩ ⟨Nat.le_of_ble_eq_true rfl, Nat.le_of_ble_eq_true rfl⟩ rfl rfl (Nat.le_of_ble_eq_true rfl) dL_act_392 (fun ru1 Mu1 qu1 => ?_)
    obtain ⟨⟨m1, hm1, er1⟩, eM1⟩ := qu1
    refine r_mem eM1 ?_
    refine r_topi (w := nI m1) er1 ?_
    refine r_ifN_le C 402 dL_act_395 (by decide) (by omega) (fun h395 => ?_) (fun h395 => ?_)
    ·
      refine r_iconst C (nI 0) dL_act_402 (by decide) ?_
      exact aB_join2 l D cs ad M z n d s e sM tM C hN E x y c a b hc ha hb false (by omega) (hz.trans (congrArg nI (svd_n (by omega))))
    ·
      refine r_iconst C (nI 1) dL_act_398 (by decide) ?_
      refine r_goto C 403 dL_act_399 (by decide) ?_
      exact aB_join2 l D cs ad M z n d s e sM tM C hN E x y c a b hc ha hb true (by omega) (hz.trans (congrArg nI (svd_n (by omega))))
  ·
    refine r_iconst C (nI 1) dL_act_386 (by decide) ?_
    exact E 0 _ _ _ _ (Nat.le_of_ble_eq_true rfl) dL_act_387 rfl (⟨rfl, ST_0 sM tM (hz.trans (congrArg nI (svd_y (Or.inr ⟨h24.1, h24.2, by omega⟩))))⟩)
set_option maxRecDepth 100000 in
set_option maxHeartbeats 4000000 in
theorem aB_cpl (l : Launch) (D : va_G) (cs : Nat → ClassId) (ad : Nat → Nat) (M : Mm) (z : Nat → Int32) (n d s : Nat) (e : Nat → Nat → Bool) (sM : CS M z n d e s) (tM : LR M z n d e) {κ : Kx} (C : CX D cs ad cL_act 15 RL 6 220 0 κ) (hN : CN ad κ) (E : eZ l D cs ad 15 cL_act 0 κ (fun r M2 => r = bI true ∧ ST M2)) (x y : Int32) (c a b : Nat) (hc : c < 16) (ha : a < n) (hb : b < n) (hz : M.1 135 2 = nI (mn6 s)) : VV l D cs ad 15 κ 0 M 513 [(11, .int (nI 0)), (10, .int (nI b)), (9, .int (nI a)), (8, .int (nI c)), (0, .ref (ad 117)), (1, .int x), (2, .int y), (3, .ref (ad 135)), (4, .ref (ad 136)), (5, .ref (ad 137)), (6, .ref (ad 138)), (7, .ref (ad 139))] [] := by
  have hq := sM.1
  have hzz := gq_gz hq
  have hzz2 := hzz
  obtain ⟨-, -, hn, hd9, ⟨mk, hk⟩, hsy, hw, hl9, hh9, hl0, hh0⟩ := hzz2
  have hn4 := sM.2.1
  have hn8 : n ≤ 8 := hn.2
  have hn1 : 1 ≤ n := hn.1
  have hm := gk_gm hn8 hk
  have he := hq.2.2.2.2.1
  obtain ⟨hBr, hpo⟩ := gz_B hzz
  obtain ⟨lt, hlt6, hlt⟩ := sM.2.2.2.2.2.2.2.2
  have hs6 := sM.2.2.2.2.2.2.1
  have hs3 := sM.2.2.2.2.2.2.2.1
  have hir := sM.2.2.1
  have hd4 := hd9.2
  refine r_iconst C (nI 0) dL_act_513 (by decide) ?_
  refine r_istore C [(12, .int (nI 0)), (11, .int (nI 0)), (10, .int (nI b)), (9, .int (nI a)), (8, .int (nI c)), (0, .ref (ad 117)), (1, .int x), (2, .int y), (3, .ref (ad 135)), (4, .ref (ad 136)), (5, .ref (ad 137)), (6, .ref (ad 138)), (7, .ref (ad 139))] dL_act_514 (by decide) rfl ?_
  have Lp : ∀ (f_p p : Nat) (M3 : Mm), n + 1 ≤ p + f_p → p ≤ n → cp9I e n p 0 M M3 → VV l D cs ad 15 κ 0 M3 516 [(12, .int (nI p)), (11, .int (sI (fun i => sI (fun j => bI (cpE e i j)) i) p)), (10, .int (nI b)), (9, .int (nI a)), (8, .int (nI c)), (0, .ref (ad 117)), (1, .int x), (2, .int y), (3, .ref (ad 135)), (4, .ref (ad 136)), (5, .ref (ad 137)), (6, .ref (ad 138)), (7, .ref (ad 139))] [] := by
    intro f_p
    induction f_p with
    | zero => intro p M3 hk1_p hk2_p hI_p; exact absurd hk1_p (by omega)
    | succ f_p ih_p =>
      intro p M3 hk1_p hk2_p hI_p
      refine r_iload C dL_act_516 0 rfl ?_
      refine r_aload_n C dL_act_518 rfl 8 rfl ?_
      refine r_iconst C (nI 0) dL_act_519 (by decide) ?_
      refine r_iald C (id := 135) (n := 3) (a := 0) (by decide) rfl (by decide) (by decide) dL_act_520 ?_
      refine r_topi (w := nI n) ((congrFun (hI_p.1.1 135 (by decide)) 0).trans tM.1) ?_
      refine r_icmpN_ge C 598 dL_act_521 (by decide) (by omega) (by omega) (fun h521 => ?_) (fun h521 => ?_)
      ·
        have hk9 : n = p := by omega
        subst hk9
        have tM3 := LR_cp tM hn4 hI_p
        have gM3 : ∀ i, i < 125 → M3.1 i = M.1 i := fun i hi => hI_p.1.1 i (by omega)
        have sM3 := lk_CS sM gM3
        refine r_lve (lv2 := [(12, .int (nI n)), (11, .int (edz (cpl z n n) n)), (10, .int (nI b)), (9, .int (nI a)), (8, .int (nI c)), (0, .ref (ad 117)), (1, .int x), (2, .int y), (3, .ref (ad 135)), (4, .ref (ad 136)), (5, .ref (ad 137)), (6, .ref (ad 138)), (7, .ref (ad 139))]) (by rw [edz_e (e := cpE e) (gq_cp hq) hn4 cpE_i]) ?_
        refine r_aload_n C dL_act_598 rfl 5 rfl ?_
        refine r_ncallV_i (nA := 0) C hN (Nat.le_of_ble_eq_true rfl) [] (c_X7_complement l D cs ad M3  z n d sM3.2.2.2.1 hn8 lt ((congrFun (gM3 120 (by decide)) 2).trans hlt) hlt6 s sM3.2.2.2.2.2.2.2.1 hs6 (gq_gm (gq_cp hq))) (tt_V ml_L_69 im_X7_complement se_X7_complement in_X7 co_X7_complement) ⟨rfl, rfl⟩ ⟨rfl, by decide, by decide, by decide⟩ ⟨Nat.le_of_ble_eq_true rfl, Nat.le_of_ble_eq_true rfl⟩ (by decide) rfl rfl rfl rfl rfl (Nat.le_of_ble_eq_true rfl) dL_act_599 (fun ru1 Mu1 qu1 => ?_)
        refine r_topi (w := (edz (cpl z n n) n)) qu1.1 ?_
        refine r_iload C dL_act_602 1 rfl ?_
        refine r_icmp_ne C 611 dL_act_604 (by decide) (fun h604 => ?_) (fun h604 => ?_)
        · exact absurd rfl h604
        ·
          refine r_iconst C (nI 1) dL_act_607 (by decide) ?_
          refine r_goto C 612 dL_act_608 (by decide) ?_
          exact E 0 _ _ _ _ (Nat.le_of_ble_eq_true rfl) dL_act_612 rfl (⟨rfl, ST_ch (e2 := cpE e) sM3 hlt6 qu1.2 (gq_cp hq) hn4 cpE_i (cpl9_54 hn8) tM3 ((congrFun (hI_p.1.1 135 (by decide)) 2).trans hz)⟩)
      ·
        refine r_iconst C (nI 0) dL_act_524 (by decide) ?_
        refine r_lve (lv2 := [(12, .int (nI p)), (11, .int (sI (fun i => sI (fun j => bI (cpE e i j)) i) p + sI (fun j => bI (cpE e p j)) (min 0 p))), (10, .int (nI b)), (9, .int (nI a)), (8, .int (nI c)), (0, .ref (ad 117)), (1, .int x), (2, .int y), (3, .ref (ad 135)), (4, .ref (ad 136)), (5, .ref (ad 137)), (6, .ref (ad 138)), (7, .ref (ad 139))]) (by rw [show sI (fun i => sI (fun j => bI (cpE e i j)) i) p + sI (fun j => bI (cpE e p j)) (min 0 p) = sI (fun i => sI (fun j => bI (cpE e i j)) i) p from by rw [Nat.zero_min]; exact Int32.add_zero _]) ?_
        refine r_istore C [(13, .int (nI 0)), (12, .int (nI p)), (11, .int (sI (fun i => sI (fun j => bI (cpE e i j)) i) p + sI (fun j => bI (cpE e p j)) (min 0 p))), (10, .int (nI b)), (9, .int (nI a)), (8, .int (nI c)), (0, .ref (ad 117)), (1, .int x), (2, .int y), (3, .ref (ad 135)), (4, .ref (ad 136)), (5, .ref (ad 137)), (6, .ref (ad 138)), (7, .ref (ad 139))] dL_act_525 (by decide) rfl ?_
        have Lq : ∀ (f_q q : Nat) (M4 : Mm), n + 1 ≤ q + f_q → q ≤ n → cp9I e n p q M M4 → VV l D cs ad 15 κ 0 M4 527 [(13, .int (nI q)), (12, .int (nI p)), (11, .int (sI (fun i => sI (fun j => bI (cpE e i j)) i) p + sI (fun j => bI (cpE e p j)) (min q p))), (10, .int (nI b)), (9, .int (nI a)), (8, .int (nI c)), (0, .ref (ad 117)), (1, .int x), (2, .int y), (3, .ref (ad 135)), (4, .ref (ad 136)), (5, .ref (ad 137)), (6, .ref (ad 138)), (7, .ref (ad 139))] [] := by
          intro f_q
          induction f_q with
          | zero => intro q M4 hk1_q hk2_q hI_q; exact absurd hk1_q (by omega)
          | succ f_q ih_q =>
            intro q M4 hk1_q hk2_q hI_q
            refine r_iload C dL_act_527 0 rfl ?_
            refine r_aload_n C dL_act_529 rfl 9 rfl ?_
            refine r_iconst C (nI 0) dL_act_530 (by decide) ?_
            refine r_iald C (id := 135) (n := 3) (a := 0) (by decide) rfl (by decide) (by decide) dL_act_531 ?_
            refine r_topi (w := nI n) ((congrFun (hI_q.1.1 135 (by decide)) 0).trans tM.1) ?_
            refine r_icmpN_ge C 592 dL_act_532 (by decide) (by omega) (by omega) (fun h532 => ?_) (fun h532 => ?_)
            ·
              have hk9 : n = q := by omega
              subst hk9
              refine r_lve (lv2 := [(13, .int (nI n)), (12, .int (nI p)), (11, .int (sI (fun i => sI (fun j => bI (cpE e i j)) i) (p + 1))), (10, .int (nI b)), (9, .int (nI a)), (8, .int (nI c)), (0, .ref (ad 117)), (1, .int x), (2, .int y), (3, .ref (ad 135)), (4, .ref (ad 136)), (5, .ref (ad 137)), (6, .ref (ad 138)), (7, .ref (ad 139))]) (by rw [show min n p = p from Nat.min_eq_right (by omega)]; rfl) ?_
              refine r_iinc C (nI (p + 1)) [(12, .int (nI (p + 1))), (13, .int (nI n)), (11, .int (sI (fun i => sI (fun j => bI (cpE e i j)) i) (p + 1))), (10, .int (nI b)), (9, .int (nI a)), (8, .int (nI c)), (0, .ref (ad 117)), (1, .int x), (2, .int y), (3, .ref (ad 135)), (4, .ref (ad 136)), (5, .ref (ad 137)), (6, .ref (ad 138)), (7, .ref (ad 139))] dL_act_592 (j := 1) rfl (inc_n p 1) (by decide) rfl ?_
              refine r_goto C 516 dL_act_595 (by decide) ?_
              refine r_lv (lv2 := [(12, .int (nI (p + 1))), (11, .int (sI (fun i => sI (fun j => bI (cpE e i j)) i) (p + 1))), (10, .int (nI b)), (9, .int (nI a)), (8, .int (nI c)), (0, .ref (ad 117)), (1, .int x), (2, .int y), (3, .ref (ad 135)), (4, .ref (ad 136)), (5, .ref (ad 137)), (6, .ref (ad 138)), (7, .ref (ad 139))]) [0, 2, 3, 4, 5, 6, 7, 8, 9, 10, 11, 12, 13] rfl ?_
              exact ih_p (p + 1) _ (by omega) (by omega) (cp9_n hI_q)
            ·
              refine r_iload C dL_act_535 1 rfl ?_
              refine r_iload C dL_act_537 0 rfl ?_
              refine r_icmpN_eq C 586 dL_act_539 (by decide) (by omega) (by omega) (fun h539 => ?_) (fun h539 => ?_)
              ·
                refine r_lve (lv2 := [(13, .int (nI q)), (12, .int (nI p)), (11, .int (sI (fun i => sI (fun j => bI (cpE e i j)) i) p + sI (fun j => bI (cpE e p j)) (min (q + 1) p))), (10, .int (nI b)), (9, .int (nI a)), (8, .int (nI c)), (0, .ref (ad 117)), (1, .int x), (2, .int y), (3, .ref (ad 135)), (4, .ref (ad 136)), (5, .ref (ad 137)), (6, .ref (ad 138)), (7, .ref (ad 139))]) (by rw [in9_k (show p ≤ q by omega)]) ?_
                refine r_iinc C (nI (q + 1)) [(13, .int (nI (q + 1))), (12, .int (nI p)), (11, .int (sI (fun i => sI (fun j => bI (cpE e i j)) i) p + sI (fun j => bI (cpE e p j)) (min (q + 1) p))), (10, .int (nI b)), (9, .int (nI a)), (8, .int (nI c)), (0, .ref (ad 117)), (1, .int x), (2, .int y), (3, .ref (ad 135)), (4, .ref (ad 136)), (5, .ref (ad 137)), (6, .ref (ad 138)), (7, .ref (ad 139))] dL_act_586 (j := 0) rfl (inc_n q 1) (by decide) rfl ?_
                refine r_goto C 527 dL_act_589 (by decide) ?_
                refine r_lv (lv2 := [(13, .int (nI (q + 1))), (12, .int (nI p)), (11, .int (sI (fun i => sI (fun j => bI (cpE e i j)) i) p + sI (fun j => bI (cpE e p j)) (min (q + 1) p))), (10, .int (nI b)), (9, .int (nI a)), (8, .int (nI c)), (0, .ref (ad 117)), (1, .int x), (2, .int y), (3, .ref (ad 135)), (4, .ref (ad 136)), (5, .ref (ad 137)), (6, .ref (ad 138)), (7, .ref (ad 139))]) [0, 1, 2, 3, 4, 5, 6, 7, 8, 9, 10, 11, 12, 13] rfl ?_
                exact ih_q (q + 1) _ (by omega) (by omega) (cp9_d hI_q hir (by omega) (by omega))
              ·
                refine r_aload C dL_act_542 11 rfl ?_
                refine r_iconst C (nI 4) dL_act_544 (by decide) ?_
                refine r_iload C dL_act_545 1 rfl ?_
                refine r_imul C dL_act_547 ?_
                refine r_topi (pk_mul 4 p) ?_
                refine r_iload C dL_act_548 0 rfl ?_
                refine r_iadd C dL_act_550 ?_
                refine r_topi (nI_add (4 * p) q) ?_
                refine r_iconst C (nI 1) dL_act_551 (by decide) ?_
                refine r_aload C dL_act_552 11 rfl ?_
                refine r_iconst C (nI 4) dL_act_554 (by decide) ?_
                refine r_iload C dL_act_555 1 rfl ?_
                refine r_imul C dL_act_557 ?_
                refine r_topi (pk_mul 4 p) ?_
                refine r_iload C dL_act_558 0 rfl ?_
                refine r_iadd C dL_act_560 ?_
                refine r_topi (nI_add (4 * p) q) ?_
                refine r_iald C (id := 137) (n := 20) (a := (4 * p) + q) (by decide) rfl (by omega) (by decide) dL_act_561 ?_
                refine r_topi (w := bI (e p q)) (cp9_r hI_q (by omega) (by omega)) ?_
                refine r_isub C dL_act_562 ?_
                refine r_topi (w := bI (!e p q)) (one_b _) ?_
                refine r_iast C (id := 137) (n := 20) (a := (4 * p) + q) (by decide) (fun _ => rfl) (by omega) (by decide) dL_act_563 ?_
                refine r_iload C dL_act_564 1 rfl ?_
                refine r_iload C dL_act_566 0 rfl ?_
                refine r_icmpN_le C 586 dL_act_568 (by decide) (by omega) (by omega) (fun h568 => ?_) (fun h568 => ?_)
                ·
                  refine r_lve (lv2 := [(13, .int (nI q)), (12, .int (nI p)), (11, .int (sI (fun i => sI (fun j => bI (cpE e i j)) i) p + sI (fun j => bI (cpE e p j)) (min (q + 1) p))), (10, .int (nI b)), (9, .int (nI a)), (8, .int (nI c)), (0, .ref (ad 117)), (1, .int x), (2, .int y), (3, .ref (ad 135)), (4, .ref (ad 136)), (5, .ref (ad 137)), (6, .ref (ad 138)), (7, .ref (ad 139))]) (by rw [in9_k (show p ≤ q by omega)]) ?_
                  refine r_iinc C (nI (q + 1)) [(13, .int (nI (q + 1))), (12, .int (nI p)), (11, .int (sI (fun i => sI (fun j => bI (cpE e i j)) i) p + sI (fun j => bI (cpE e p j)) (min (q + 1) p))), (10, .int (nI b)), (9, .int (nI a)), (8, .int (nI c)), (0, .ref (ad 117)), (1, .int x), (2, .int y), (3, .ref (ad 135)), (4, .ref (ad 136)), (5, .ref (ad 137)), (6, .ref (ad 138)), (7, .ref (ad 139))] dL_act_586 (j := 0) rfl (inc_n q 1) (by decide) rfl ?_
                  refine r_goto C 527 dL_act_589 (by decide) ?_
                  refine r_lv (lv2 := [(13, .int (nI (q + 1))), (12, .int (nI p)), (11, .int (sI (fun i => sI (fun j => bI (cpE e i j)) i) p + sI (fun j => bI (cpE e p j)) (min (q + 1) p))), (10, .int (nI b)), (9, .int (nI a)), (8, .int (nI c)), (0, .ref (ad 117)), (1, .int x), (2, .int y), (3, .ref (ad 135)), (4, .ref (ad 136)), (5, .ref (ad 137)), (6, .ref (ad 138)), (7, .ref (ad 139))]) [0, 1, 2, 3, 4, 5, 6, 7, 8, 9, 10, 11, 12, 13] rfl ?_
                  exact ih_q (q + 1) _ (by omega) (by omega) (cp9_s hI_q hn4 (by omega) (by omega) (by omega))
                ·
                  refine r_iload C dL_act_571 2 rfl ?_
                  refine r_aload C dL_act_573 11 rfl ?_
                  refine r_iconst C (nI 4) dL_act_575 (by decide) ?_
                  refine r_iload C dL_act_576 1 rfl ?_
                  refine r_imul C dL_act_578 ?_
                  refine r_topi (pk_mul 4 p) ?_
                  refine r_iload C dL_act_579 0 rfl ?_
                  refine r_iadd C dL_act_581 ?_
                  refine r_topi (nI_add (4 * p) q) ?_
                  refine r_iald C (id := 137) (n := 20) (a := (4 * p) + q) (by decide) rfl (by omega) (by decide) dL_act_582 ?_
                  refine r_topi (w := bI (!e p q)) (by rw [mI_eq, upd_e]) ?_
                  refine r_iadd C dL_act_583 ?_
                  refine r_istore C [(11, .int ((sI (fun i => sI (fun j => bI (cpE e i j)) i) p + sI (fun j => bI (cpE e p j)) (min q p)) + (bI (!e p q)))), (13, .int (nI q)), (12, .int (nI p)), (10, .int (nI b)), (9, .int (nI a)), (8, .int (nI c)), (0, .ref (ad 117)), (1, .int x), (2, .int y), (3, .ref (ad 135)), (4, .ref (ad 136)), (5, .ref (ad 137)), (6, .ref (ad 138)), (7, .ref (ad 139))] dL_act_584 (by decide) rfl ?_
                  refine r_lve (lv2 := [(11, .int (sI (fun i => sI (fun j => bI (cpE e i j)) i) p + sI (fun j => bI (cpE e p j)) (min (q + 1) p))), (13, .int (nI q)), (12, .int (nI p)), (10, .int (nI b)), (9, .int (nI a)), (8, .int (nI c)), (0, .ref (ad 117)), (1, .int x), (2, .int y), (3, .ref (ad 135)), (4, .ref (ad 136)), (5, .ref (ad 137)), (6, .ref (ad 138)), (7, .ref (ad 139))]) (by rw [in9_s (show q < p by omega), ← Int32.add_assoc, cpE_ne (show p ≠ q by omega)]) ?_
                  refine r_iinc C (nI (q + 1)) [(13, .int (nI (q + 1))), (11, .int (sI (fun i => sI (fun j => bI (cpE e i j)) i) p + sI (fun j => bI (cpE e p j)) (min (q + 1) p))), (12, .int (nI p)), (10, .int (nI b)), (9, .int (nI a)), (8, .int (nI c)), (0, .ref (ad 117)), (1, .int x), (2, .int y), (3, .ref (ad 135)), (4, .ref (ad 136)), (5, .ref (ad 137)), (6, .ref (ad 138)), (7, .ref (ad 139))] dL_act_586 (j := 1) rfl (inc_n q 1) (by decide) rfl ?_
                  refine r_goto C 527 dL_act_589 (by decide) ?_
                  refine r_lv (lv2 := [(13, .int (nI (q + 1))), (12, .int (nI p)), (11, .int (sI (fun i => sI (fun j => bI (cpE e i j)) i) p + sI (fun j => bI (cpE e p j)) (min (q + 1) p))), (10, .int (nI b)), (9, .int (nI a)), (8, .int (nI c)), (0, .ref (ad 117)), (1, .int x), (2, .int y), (3, .ref (ad 135)), (4, .ref (ad 136)), (5, .ref (ad 137)), (6, .ref (ad 138)), (7, .ref (ad 139))]) [0, 2, 1, 3, 4, 5, 6, 7, 8, 9, 10, 11, 12, 13] rfl ?_
                  exact ih_q (q + 1) _ (by omega) (by omega) (cp9_s hI_q hn4 (by omega) (by omega) (by omega))
        refine r_lv (lv2 := [(13, .int (nI 0)), (12, .int (nI p)), (11, .int (sI (fun i => sI (fun j => bI (cpE e i j)) i) p + sI (fun j => bI (cpE e p j)) (min 0 p))), (10, .int (nI b)), (9, .int (nI a)), (8, .int (nI c)), (0, .ref (ad 117)), (1, .int x), (2, .int y), (3, .ref (ad 135)), (4, .ref (ad 136)), (5, .ref (ad 137)), (6, .ref (ad 138)), (7, .ref (ad 139))]) [0, 1, 2, 3, 4, 5, 6, 7, 8, 9, 10, 11, 12, 13] rfl ?_
        exact Lq (n + 1) 0 _ (by omega) (by omega) hI_p
  refine r_lv (lv2 := [(12, .int (nI 0)), (11, .int (sI (fun i => sI (fun j => bI (cpE e i j)) i) 0)), (10, .int (nI b)), (9, .int (nI a)), (8, .int (nI c)), (0, .ref (ad 117)), (1, .int x), (2, .int y), (3, .ref (ad 135)), (4, .ref (ad 136)), (5, .ref (ad 137)), (6, .ref (ad 138)), (7, .ref (ad 139))]) [0, 1, 2, 3, 4, 5, 6, 7, 8, 9, 10, 11, 12] rfl ?_
  exact Lp (n + 1) 0 _ (by omega) (by omega) (cp9_0 tM)
set_option maxRecDepth 100000 in
set_option maxHeartbeats 4000000 in
theorem aB_weigh (l : Launch) (D : va_G) (cs : Nat → ClassId) (ad : Nat → Nat) (M : Mm) (z : Nat → Int32) (n d s : Nat) (e : Nat → Nat → Bool) (sM : CS M z n d e s) (tM : LR M z n d e) {κ : Kx} (C : CX D cs ad cL_act 15 RL 6 220 0 κ) (hN : CN ad κ) (E : eZ l D cs ad 15 cL_act 0 κ (fun r M2 => r = bI true ∧ ST M2)) (x y : Int32) (c a b : Nat) (hc : c < 16) (ha : a < n) (hb : b < n) (hz : M.1 135 2 = nI (mn6 s)) : VV l D cs ad 15 κ 0 M 620 [(11, .int (nI 0)), (10, .int (nI b)), (9, .int (nI a)), (8, .int (nI c)), (0, .ref (ad 117)), (1, .int x), (2, .int y), (3, .ref (ad 135)), (4, .ref (ad 136)), (5, .ref (ad 137)), (6, .ref (ad 138)), (7, .ref (ad 139))] [] := by
  have hq := sM.1
  have hzz := gq_gz hq
  have hzz2 := hzz
  obtain ⟨-, -, hn, hd9, ⟨mk, hk⟩, hsy, hw, hl9, hh9, hl0, hh0⟩ := hzz2
  have hn4 := sM.2.1
  have hn8 : n ≤ 8 := hn.2
  have hn1 : 1 ≤ n := hn.1
  have hm := gk_gm hn8 hk
  have he := hq.2.2.2.2.1
  obtain ⟨hBr, hpo⟩ := gz_B hzz
  obtain ⟨lt, hlt6, hlt⟩ := sM.2.2.2.2.2.2.2.2
  have hs6 := sM.2.2.2.2.2.2.1
  have hs3 := sM.2.2.2.2.2.2.2.1
  have hir := sM.2.2.1
  have hd4 := hd9.2
  refine r_aload C dL_act_620 8 rfl ?_
  refine r_iload C dL_act_622 2 rfl ?_
  refine r_iald C (id := 136) (n := 4) (a := a) (by decide) rfl (by omega) (by decide) dL_act_624 ?_
  refine r_topi (w := (z (2 + a))) ((tM).2.2.1 a (by omega)) ?_
  refine r_istore C [(12, .int (z (2 + a))), (11, .int (nI 0)), (10, .int (nI b)), (9, .int (nI a)), (8, .int (nI c)), (0, .ref (ad 117)), (1, .int x), (2, .int y), (3, .ref (ad 135)), (4, .ref (ad 136)), (5, .ref (ad 137)), (6, .ref (ad 138)), (7, .ref (ad 139))] dL_act_625 (by decide) rfl ?_
  refine r_aload C dL_act_627 9 rfl ?_
  refine r_iload C dL_act_629 3 rfl ?_
  refine r_iload_n C dL_act_631 rfl 7 rfl ?_
  refine r_iconst C (nI 4) dL_act_632 (by decide) ?_
  refine r_ishr C dL_act_633 ?_
  refine r_bipush C (nI 10) dL_act_634 (by decide) ?_
  refine r_callS_i (nA := 2) C (Nat.le_of_ble_eq_true rfl) [.int (y >>> ((nI 4) &&& 31)), .int (nI 10)] (c_L_at l D cs ad M (y >>> ((nI 4) &&& 31)) 10 (by omega) (by omega)) (tt_S ml_L_56 st_L_at in_L co_L_at) ⟨rfl, rfl⟩ ⟨rfl, by decide, by decide, by decide⟩ ⟨Nat.le_of_ble_eq_true rfl, Nat.le_of_ble_eq_true rfl⟩ rfl rfl (Nat.le_of_ble_eq_true rfl) dL_act_636 (fun ru1 Mu1 qu1 => ?_)
  obtain ⟨⟨m1, hm1, er1⟩, eM1⟩ := qu1
  refine r_mem eM1 ?_
  refine r_topi (w := nI m1) er1 ?_
  refine r_iast C (id := 136) (n := 4) (a := a) (by decide) (fun _ => rfl) (by omega) (by decide) dL_act_639 ?_
  refine r_nm (fun M4 hM4 => ?_)
  have tM4 : LR M4 (upd z (2 + a) (nI m1)) n d e := by rw [hM4]; exact LR_w tM hn4 ha
  have gM4 : ∀ i, i < 125 → M4.1 i = M.1 i := fun i hi => by rw [hM4, mI_ne _ (by omega)]
  have sM4 := lk_CS sM gM4
  refine r_aload_n C dL_act_640 rfl 5 rfl ?_
  refine r_iload C dL_act_641 3 rfl ?_
  refine r_aload C dL_act_643 9 rfl ?_
  refine r_iload C dL_act_645 3 rfl ?_
  refine r_iald C (id := 136) (n := 4) (a := a) (by decide) rfl (by omega) (by decide) dL_act_647 ?_
  refine r_topi (w := nI m1) (by rw [hM4, mI_eq, upd_e]) ?_
  refine r_ncallV_i (nA := 2) C hN (Nat.le_of_ble_eq_true rfl) [.int (nI a), .int (nI m1)] (c_X7_weigh l D cs ad M4  z n d sM4.2.2.2.1 hn8 lt ((congrFun (gM4 120 (by decide)) 2).trans hlt) hlt6 s sM4.2.2.2.2.2.2.2.1 hs6 a m1 ha (by omega)) (tt_V ml_L_73 im_X7_weigh se_X7_weigh in_X7 co_X7_weigh) ⟨rfl, rfl⟩ ⟨rfl, by decide, by decide, by decide⟩ ⟨Nat.le_of_ble_eq_true rfl, Nat.le_of_ble_eq_true rfl⟩ (by decide) rfl rfl rfl rfl rfl (Nat.le_of_ble_eq_true rfl) dL_act_648 (fun ru2 Mu2 qu2 => ?_)
  refine r_topi (w := (z (2 + a))) qu2.1 ?_
  refine r_iload C dL_act_651 0 rfl ?_
  refine r_icmp_ne C 660 dL_act_653 (by decide) (fun h653 => ?_) (fun h653 => ?_)
  · exact absurd rfl h653
  ·
    refine r_iconst C (nI 1) dL_act_656 (by decide) ?_
    refine r_goto C 661 dL_act_657 (by decide) ?_
    exact E 0 _ _ _ _ (Nat.le_of_ble_eq_true rfl) dL_act_661 rfl ((by obtain ⟨M9, g1, g2⟩ := qu2.2; exact ⟨rfl, ST_ch (z2 := upd z (2 + a) (nI m1)) sM4 hlt6 ⟨M9, g1, by rw [g2]; exact (oG.rf 0 M9).I (by simp only [gW, gR, gH]; omega), by rw [g2]; exact gv_uw (sv_gv g1 hlt6 sM4.2.2.2.1 hn8 (by decide) (Or.inl (by decide))) hn8 ha⟩ (gq_w hq ha (by omega)) hn4 hir (upd_n _ _ (by omega)) tM4 (by rw [hM4, mI_ne _ (by decide)]; exact hz)⟩))
set_option maxRecDepth 100000 in
set_option maxHeartbeats 4000000 in
theorem aB_lab2 (l : Launch) (D : va_G) (cs : Nat → ClassId) (ad : Nat → Nat) (M : Mm) (z : Nat → Int32) (n d s : Nat) (e : Nat → Nat → Bool) (sM : CS M z n d e s) (tM : LR M z n d e) {κ : Kx} (C : CX D cs ad cL_act 15 RL 6 220 0 κ) (hN : CN ad κ) (E : eZ l D cs ad 15 cL_act 0 κ (fun r M2 => r = bI true ∧ ST M2)) (x y : Int32) (c a b : Nat) (hc : c < 16) (ha : a < n) (hb : b < n) (p : Nat) (hp : p < d) (w : Int32) (hw9 : wit w (-9) (nI 9) = true) (hz : M.1 135 2 = nI (mn6 s)) : VV l D cs ad 15 κ 0 M 709 [(12, .int (nI p)), (11, .int (nI 0)), (10, .int (nI b)), (9, .int (nI a)), (8, .int (nI c)), (0, .ref (ad 117)), (1, .int x), (2, .int y), (3, .ref (ad 135)), (4, .ref (ad 136)), (5, .ref (ad 137)), (6, .ref (ad 138)), (7, .ref (ad 139))] [.int w] := by
  have hq := sM.1
  have hzz := gq_gz hq
  have hzz2 := hzz
  obtain ⟨-, -, hn, hd9, ⟨mk, hk⟩, hsy, hw, hl9, hh9, hl0, hh0⟩ := hzz2
  have hn4 := sM.2.1
  have hn8 : n ≤ 8 := hn.2
  have hn1 : 1 ≤ n := hn.1
  have hm := gk_gm hn8 hk
  have he := hq.2.2.2.2.1
  obtain ⟨hBr, hpo⟩ := gz_B hzz
  obtain ⟨lt, hlt6, hlt⟩ := sM.2.2.2.2.2.2.2.2
  have hs6 := sM.2.2.2.2.2.2.1
  have hs3 := sM.2.2.2.2.2.2.2.1
  have hir := sM.2.2.1
  have hd4 := hd9.2
  refine r_istore C [(13, .int w), (12, .int (nI p)), (11, .int (nI 0)), (10, .int (nI b)), (9, .int (nI a)), (8, .int (nI c)), (0, .ref (ad 117)), (1, .int x), (2, .int y), (3, .ref (ad 135)), (4, .ref (ad 136)), (5, .ref (ad 137)), (6, .ref (ad 138)), (7, .ref (ad 139))] dL_act_709 (by decide) rfl ?_
  refine r_iload C dL_act_711 5 rfl ?_
  refine r_bipush C (nI 13) dL_act_713 (by decide) ?_
  refine r_icmpN_ge C 763 dL_act_715 (by decide) (by omega) (by omega) (fun h715 => ?_) (fun h715 => ?_)
  ·
    refine r_aload C dL_act_763 13 rfl ?_
    refine r_iload C dL_act_765 1 rfl ?_
    refine r_iald C (id := 139) (n := 4) (a := p) (by decide) rfl (by omega) (by decide) dL_act_767 ?_
    refine r_topi (w := (z (50 + p))) ((tM).2.2.2.2.2 p (by omega)) ?_
    refine r_istore C [(14, .int (z (50 + p))), (13, .int w), (12, .int (nI p)), (11, .int (nI 0)), (10, .int (nI b)), (9, .int (nI a)), (8, .int (nI c)), (0, .ref (ad 117)), (1, .int x), (2, .int y), (3, .ref (ad 135)), (4, .ref (ad 136)), (5, .ref (ad 137)), (6, .ref (ad 138)), (7, .ref (ad 139))] dL_act_768 (by decide) rfl ?_
    refine r_aload C dL_act_770 14 rfl ?_
    refine r_iload C dL_act_772 2 rfl ?_
    refine r_iload C dL_act_774 1 rfl ?_
    refine r_iast C (id := 139) (n := 4) (a := p) (by decide) (fun _ => rfl) (by omega) (by decide) dL_act_776 ?_
    refine r_nm (fun M4 hM4 => ?_)
    have tM4 : LR M4 (upd z (50 + p) w) n d e := by rw [hM4]; exact LR_h tM hn4 (by omega)
    have gM4 : ∀ i, i < 125 → M4.1 i = M.1 i := fun i hi => by rw [hM4, mI_ne _ (by omega)]
    have sM4 := lk_CS sM gM4
    refine r_aload_n C dL_act_777 rfl 7 rfl ?_
    refine r_iload C dL_act_778 2 rfl ?_
    refine r_iload C dL_act_780 1 rfl ?_
    refine r_ncallV_i (nA := 2) C hN (Nat.le_of_ble_eq_true rfl) [.int (nI p), .int w] (c_X7_hold l D cs ad M4  z n d sM4.2.2.2.1 hn8 lt ((congrFun (gM4 120 (by decide)) 2).trans hlt) hlt6 s sM4.2.2.2.2.2.2.2.1 hs6 hd4 p w hp hw9) (tt_V ml_L_80 im_X7_hold se_X7_hold in_X7 co_X7_hold) ⟨rfl, rfl⟩ ⟨rfl, by decide, by decide, by decide⟩ ⟨Nat.le_of_ble_eq_true rfl, Nat.le_of_ble_eq_true rfl⟩ (by decide) rfl rfl rfl rfl rfl (Nat.le_of_ble_eq_true rfl) dL_act_782 (fun ru1 Mu1 qu1 => ?_)
    refine r_topi (w := (z (50 + p))) qu1.1 ?_
    refine r_iload C dL_act_785 0 rfl ?_
    refine r_icmp_ne C 794 dL_act_787 (by decide) (fun h787 => ?_) (fun h787 => ?_)
    · exact absurd rfl h787
    ·
      refine r_iconst C (nI 1) dL_act_790 (by decide) ?_
      refine r_goto C 795 dL_act_791 (by decide) ?_
      exact E 0 _ _ _ _ (Nat.le_of_ble_eq_true rfl) dL_act_795 rfl ((by obtain ⟨M9, g1, g2⟩ := qu1.2; exact ⟨rfl, ST_ch (z2 := upd z (50 + p) w) sM4 hlt6 ⟨M9, g1, by rw [g2]; exact (oG.rf 0 M9).I (by simp only [gW, gR, gH]; omega), by rw [g2]; exact gv_uh (sv_gv g1 hlt6 sM4.2.2.2.1 hn8 (by decide) (Or.inl (by decide))) hn8 (by omega)⟩ (gq_h hq hp (ok9_of hw9)) hn4 hir (upd_n _ _ (by omega)) tM4 (by rw [hM4, mI_ne _ (by decide)]; exact hz)⟩))
  ·
    refine r_aload C dL_act_718 12 rfl ?_
    refine r_iconst C (nI 4) dL_act_720 (by decide) ?_
    refine r_iload C dL_act_721 4 rfl ?_
    refine r_imul C dL_act_723 ?_
    refine r_topi (pk_mul 4 a) ?_
    refine r_iload C dL_act_724 1 rfl ?_
    refine r_iadd C dL_act_726 ?_
    refine r_topi (nI_add (4 * a) p) ?_
    refine r_iald C (id := 138) (n := 20) (a := (4 * a) + p) (by decide) rfl (by omega) (by decide) dL_act_727 ?_
    refine r_topi (w := (z (18 + 4 * a + p))) ((tM).2.2.2.2.1 a p (by omega) (by omega)) ?_
    refine r_istore C [(14, .int (z (18 + 4 * a + p))), (13, .int w), (12, .int (nI p)), (11, .int (nI 0)), (10, .int (nI b)), (9, .int (nI a)), (8, .int (nI c)), (0, .ref (ad 117)), (1, .int x), (2, .int y), (3, .ref (ad 135)), (4, .ref (ad 136)), (5, .ref (ad 137)), (6, .ref (ad 138)), (7, .ref (ad 139))] dL_act_728 (by decide) rfl ?_
    refine r_aload C dL_act_730 13 rfl ?_
    refine r_iconst C (nI 4) dL_act_732 (by decide) ?_
    refine r_iload C dL_act_733 5 rfl ?_
    refine r_imul C dL_act_735 ?_
    refine r_topi (pk_mul 4 a) ?_
    refine r_iload C dL_act_736 2 rfl ?_
    refine r_iadd C dL_act_738 ?_
    refine r_topi (nI_add (4 * a) p) ?_
    refine r_iload C dL_act_739 1 rfl ?_
    refine r_iast C (id := 138) (n := 20) (a := (4 * a) + p) (by decide) (fun _ => rfl) (by omega) (by decide) dL_act_741 ?_
    refine r_nm (fun M4 hM4 => ?_)
    have tM4 : LR M4 (upd z (18 + 4 * a + p) w) n d e := by rw [hM4]; exact LR_l tM hn4 ha (by omega)
    have gM4 : ∀ i, i < 125 → M4.1 i = M.1 i := fun i hi => by rw [hM4, mI_ne _ (by omega)]
    have sM4 := lk_CS sM gM4
    refine r_aload_n C dL_act_742 rfl 7 rfl ?_
    refine r_iload C dL_act_743 5 rfl ?_
    refine r_iload C dL_act_745 2 rfl ?_
    refine r_iload C dL_act_747 1 rfl ?_
    refine r_ncallV_i (nA := 3) C hN (Nat.le_of_ble_eq_true rfl) [.int (nI a), .int (nI p), .int w] (c_X7_label l D cs ad M4  z n d sM4.2.2.2.1 hn8 lt ((congrFun (gM4 120 (by decide)) 2).trans hlt) hlt6 s sM4.2.2.2.2.2.2.2.1 hs6 hd4 a p w ha hp hw9) (tt_V ml_L_76 im_X7_label se_X7_label in_X7 co_X7_label) ⟨rfl, rfl⟩ ⟨rfl, by decide, by decide, by decide⟩ ⟨Nat.le_of_ble_eq_true rfl, Nat.le_of_ble_eq_true rfl⟩ (by decide) rfl rfl rfl rfl rfl (Nat.le_of_ble_eq_true rfl) dL_act_749 (fun ru2 Mu2 qu2 => ?_)
    refine r_topi (w := (z (18 + 4 * a + p))) qu2.1 ?_
    refine r_iload C dL_act_752 0 rfl ?_
    refine r_icmp_ne C 761 dL_act_754 (by decide) (fun h754 => ?_) (fun h754 => ?_)
    · exact absurd rfl h754
    ·
      refine r_iconst C (nI 1) dL_act_757 (by decide) ?_
      refine r_goto C 762 dL_act_758 (by decide) ?_
      exact E 0 _ _ _ _ (Nat.le_of_ble_eq_true rfl) dL_act_762 rfl ((by obtain ⟨M9, g1, g2⟩ := qu2.2; exact ⟨rfl, ST_ch (z2 := upd z (18 + 4 * a + p) w) sM4 hlt6 ⟨M9, g1, by rw [g2]; exact (oG.rf 0 M9).I (by simp only [gW, gR, gH]; omega), by rw [g2]; exact gv_ul (sv_gv g1 hlt6 sM4.2.2.2.1 hn8 (by decide) (Or.inl (by decide))) hn8 ha (by omega)⟩ (gq_l hq ha hp (ok9_of hw9)) hn4 hir (upd_n _ _ (by omega)) tM4 (by rw [hM4, mI_ne _ (by decide)]; exact hz)⟩))
set_option maxRecDepth 100000 in
set_option maxHeartbeats 4000000 in
theorem aB_lab (l : Launch) (D : va_G) (cs : Nat → ClassId) (ad : Nat → Nat) (M : Mm) (z : Nat → Int32) (n d s : Nat) (e : Nat → Nat → Bool) (sM : CS M z n d e s) (tM : LR M z n d e) {κ : Kx} (C : CX D cs ad cL_act 15 RL 6 220 0 κ) (hN : CN ad κ) (E : eZ l D cs ad 15 cL_act 0 κ (fun r M2 => r = bI true ∧ ST M2)) (x y : Int32) (c a b : Nat) (hc : c < 16) (ha : a < n) (hb : b < n) (hz : M.1 135 2 = nI (mn6 s)) : VV l D cs ad 15 κ 0 M 662 [(11, .int (nI 0)), (10, .int (nI b)), (9, .int (nI a)), (8, .int (nI c)), (0, .ref (ad 117)), (1, .int x), (2, .int y), (3, .ref (ad 135)), (4, .ref (ad 136)), (5, .ref (ad 137)), (6, .ref (ad 138)), (7, .ref (ad 139))] [] := by
  have hq := sM.1
  have hzz := gq_gz hq
  have hzz2 := hzz
  obtain ⟨-, -, hn, hd9, ⟨mk, hk⟩, hsy, hw, hl9, hh9, hl0, hh0⟩ := hzz2
  have hn4 := sM.2.1
  have hn8 : n ≤ 8 := hn.2
  have hn1 : 1 ≤ n := hn.1
  have hm := gk_gm hn8 hk
  have he := hq.2.2.2.2.1
  obtain ⟨hBr, hpo⟩ := gz_B hzz
  obtain ⟨lt, hlt6, hlt⟩ := sM.2.2.2.2.2.2.2.2
  have hs6 := sM.2.2.2.2.2.2.1
  have hs3 := sM.2.2.2.2.2.2.2.1
  have hir := sM.2.2.1
  have hd4 := hd9.2
  refine r_iload_n C dL_act_662 rfl 6 rfl ?_
  refine r_iconst C (nI 4) dL_act_663 (by decide) ?_
  refine r_ishr C dL_act_664 ?_
  refine r_aload_n C dL_act_665 rfl 7 rfl ?_
  refine r_iconst C (nI 1) dL_act_666 (by decide) ?_
  refine r_iald C (id := 135) (n := 3) (a := 1) (by decide) rfl (by decide) (by decide) dL_act_667 ?_
  refine r_topi (w := nI d) (tM).2.1 ?_
  refine r_callS_i (nA := 2) C (Nat.le_of_ble_eq_true rfl) [.int (y >>> ((nI 4) &&& 31)), .int (nI d)] (c_L_at l D cs ad M (y >>> ((nI 4) &&& 31)) d (by omega) (by omega)) (tt_S ml_L_56 st_L_at in_L co_L_at) ⟨rfl, rfl⟩ ⟨rfl, by decide, by decide, by decide⟩ ⟨Nat.le_of_ble_eq_true rfl, Nat.le_of_ble_eq_true rfl⟩ rfl rfl (Nat.le_of_ble_eq_true rfl) dL_act_668 (fun ru1 Mu1 qu1 => ?_)
  obtain ⟨⟨m1, hm1, er1⟩, eM1⟩ := qu1
  refine r_mem eM1 ?_
  refine r_topi (w := nI m1) er1 ?_
  refine r_istore C [(12, .int (nI m1)), (11, .int (nI 0)), (10, .int (nI b)), (9, .int (nI a)), (8, .int (nI c)), (0, .ref (ad 117)), (1, .int x), (2, .int y), (3, .ref (ad 135)), (4, .ref (ad 136)), (5, .ref (ad 137)), (6, .ref (ad 138)), (7, .ref (ad 139))] dL_act_671 (by decide) rfl ?_
  refine r_iload_n C dL_act_673 rfl 7 rfl ?_
  refine r_bipush C (nI 6) dL_act_674 (by decide) ?_
  refine r_ishr C dL_act_676 ?_
  refine r_iconst C (nI 3) dL_act_677 (by decide) ?_
  refine r_callS_i (nA := 2) C (Nat.le_of_ble_eq_true rfl) [.int (y >>> ((nI 6) &&& 31)), .int (nI 3)] (c_L_at l D cs ad M (y >>> ((nI 6) &&& 31)) 3 (by omega) (by omega)) (tt_S ml_L_56 st_L_at in_L co_L_at) ⟨rfl, rfl⟩ ⟨rfl, by decide, by decide, by decide⟩ ⟨Nat.le_of_ble_eq_true rfl, Nat.le_of_ble_eq_true rfl⟩ rfl rfl (Nat.le_of_ble_eq_true rfl) dL_act_678 (fun ru2 Mu2 qu2 => ?_)
  obtain ⟨⟨m2, hm2, er2⟩, eM2⟩ := qu2
  refine r_mem eM2 ?_
  refine r_topi (w := nI m2) er2 ?_
  refine r_ifN_ne C 699 dL_act_681 (by decide) (by omega) (fun h681 => ?_) (fun h681 => ?_)
  ·
    refine r_iload_n C dL_act_699 rfl 7 rfl ?_
    refine r_bipush C (nI 8) dL_act_700 (by decide) ?_
    refine r_ishr C dL_act_702 ?_
    refine r_iconst C (nI 3) dL_act_703 (by decide) ?_
    refine r_callS_i (nA := 2) C (Nat.le_of_ble_eq_true rfl) [.int (y >>> ((nI 8) &&& 31)), .int (nI 3)] (c_L_at l D cs ad M (y >>> ((nI 8) &&& 31)) 3 (by omega) (by omega)) (tt_S ml_L_56 st_L_at in_L co_L_at) ⟨rfl, rfl⟩ ⟨rfl, by decide, by decide, by decide⟩ ⟨Nat.le_of_ble_eq_true rfl, Nat.le_of_ble_eq_true rfl⟩ rfl rfl (Nat.le_of_ble_eq_true rfl) dL_act_704 (fun ru3 Mu3 qu3 => ?_)
    obtain ⟨⟨m3, hm3, er3⟩, eM3⟩ := qu3
    refine r_mem eM3 ?_
    refine r_topi (w := nI m3) er3 ?_
    refine r_iconst C (nI 1) dL_act_707 (by decide) ?_
    refine r_isub C dL_act_708 ?_
    exact aB_lab2 l D cs ad M z n d s e sM tM C hN E x y c a b hc ha hb m1 (by omega) _ (wit_b (by omega)) hz
  ·
    refine r_iload_n C dL_act_684 rfl 7 rfl ?_
    refine r_bipush C (nI 8) dL_act_685 (by decide) ?_
    refine r_ishr C dL_act_687 ?_
    refine r_bipush C (nI 19) dL_act_688 (by decide) ?_
    refine r_callS_i (nA := 2) C (Nat.le_of_ble_eq_true rfl) [.int (y >>> ((nI 8) &&& 31)), .int (nI 19)] (c_L_at l D cs ad M (y >>> ((nI 8) &&& 31)) 19 (by omega) (by omega)) (tt_S ml_L_56 st_L_at in_L co_L_at) ⟨rfl, rfl⟩ ⟨rfl, by decide, by decide, by decide⟩ ⟨Nat.le_of_ble_eq_true rfl, Nat.le_of_ble_eq_true rfl⟩ rfl rfl (Nat.le_of_ble_eq_true rfl) dL_act_690 (fun ru4 Mu4 qu4 => ?_)
    obtain ⟨⟨m4, hm4, er4⟩, eM4⟩ := qu4
    refine r_mem eM4 ?_
    refine r_topi (w := nI m4) er4 ?_
    refine r_bipush C (nI 9) dL_act_693 (by decide) ?_
    refine r_isub C dL_act_695 ?_
    refine r_goto C 709 dL_act_696 (by decide) ?_
    exact aB_lab2 l D cs ad M z n d s e sM tM C hN E x y c a b hc ha hb m1 (by omega) _ (wit_a (by omega)) hz
set_option maxRecDepth 100000 in
set_option maxHeartbeats 4000000 in
theorem aB_78 (l : Launch) (D : va_G) (cs : Nat → ClassId) (ad : Nat → Nat) (M : Mm) (z : Nat → Int32) (n d s : Nat) (e : Nat → Nat → Bool) (sM : CS M z n d e s) (tM : LR M z n d e) {κ : Kx} (C : CX D cs ad cL_act 15 RL 6 220 0 κ) (hN : CN ad κ) (E : eZ l D cs ad 15 cL_act 0 κ (fun r M2 => r = bI true ∧ ST M2)) (x y : Int32) (c a b : Nat) (hc : c < 16) (ha : a < n) (hb : b < n) (hz : M.1 135 2 = nI (svd c n a b s)) : VV l D cs ad 15 κ 0 M 78 [(10, .int (nI b)), (9, .int (nI a)), (8, .int (nI c)), (0, .ref (ad 117)), (1, .int x), (2, .int y), (3, .ref (ad 135)), (4, .ref (ad 136)), (5, .ref (ad 137)), (6, .ref (ad 138)), (7, .ref (ad 139))] [] := by
  have hq := sM.1
  have hzz := gq_gz hq
  have hzz2 := hzz
  obtain ⟨-, -, hn, hd9, ⟨mk, hk⟩, hsy, hw, hl9, hh9, hl0, hh0⟩ := hzz2
  have hn4 := sM.2.1
  have hn8 : n ≤ 8 := hn.2
  have hn1 : 1 ≤ n := hn.1
  have hm := gk_gm hn8 hk
  have he := hq.2.2.2.2.1
  obtain ⟨hBr, hpo⟩ := gz_B hzz
  obtain ⟨lt, hlt6, hlt⟩ := sM.2.2.2.2.2.2.2.2
  have hs6 := sM.2.2.2.2.2.2.1
  have hs3 := sM.2.2.2.2.2.2.2.1
  have hir := sM.2.2.1
  have hd4 := hd9.2
  refine r_iload C dL_act_78 2 rfl ?_
  refine r_ifN_ne C 186 dL_act_80 (by decide) (by omega) (fun h80 => ?_) (fun h80 => ?_)
  ·
    refine r_iload C dL_act_186 2 rfl ?_
    refine r_iconst C (nI 1) dL_act_188 (by decide) ?_
    refine r_icmpN_ne C 370 dL_act_189 (by decide) (by omega) (by omega) (fun h189 => ?_) (fun h189 => ?_)
    ·
      refine r_iconst C (nI 0) dL_act_370 (by decide) ?_
      refine r_istore C [(11, .int (nI 0)), (10, .int (nI b)), (9, .int (nI a)), (8, .int (nI c)), (0, .ref (ad 117)), (1, .int x), (2, .int y), (3, .ref (ad 135)), (4, .ref (ad 136)), (5, .ref (ad 137)), (6, .ref (ad 138)), (7, .ref (ad 139))] dL_act_371 (by decide) rfl ?_
      refine r_iload C dL_act_373 3 rfl ?_
      refine r_iconst C (nI 5) dL_act_375 (by decide) ?_
      refine r_icmpN_ge C 507 dL_act_376 (by decide) (by omega) (by omega) (fun h376 => ?_) (fun h376 => ?_)
      ·
        refine r_iload C dL_act_507 3 rfl ?_
        refine r_iconst C (nI 5) dL_act_509 (by decide) ?_
        refine r_icmpN_ne C 613 dL_act_510 (by decide) (by omega) (by omega) (fun h510 => ?_) (fun h510 => ?_)
        ·
          refine r_iload C dL_act_613 3 rfl ?_
          refine r_bipush C (nI 8) dL_act_615 (by decide) ?_
          refine r_icmpN_ge C 662 dL_act_617 (by decide) (by omega) (by omega) (fun h617 => ?_) (fun h617 => ?_)
          ·
            exact aB_lab l D cs ad M z n d s e sM tM C hN E x y c a b hc ha hb (hz.trans (congrArg nI (svd_n (by omega))))
          ·
            exact aB_weigh l D cs ad M z n d s e sM tM C hN E x y c a b hc ha hb (hz.trans (congrArg nI (svd_n (by omega))))
        ·
          exact aB_cpl l D cs ad M z n d s e sM tM C hN E x y c a b hc ha hb (hz.trans (congrArg nI (svd_n (by omega))))
      ·
        exact aB_join l D cs ad M z n d s e sM tM C hN E x y c a b hc ha hb (by omega) hz
    ·
      (have hc1 : c = 1 := by omega); subst hc1; exact aB_remove l D cs ad M z n d s e sM tM C hN E x y 1 a b hc ha hb hz
  ·
    exact aB_begin l D cs ad M z n d s e sM tM C hN E x y c a b hc ha hb (hz.trans (congrArg nI (svd_n (by omega))))
set_option maxRecDepth 100000 in
set_option maxHeartbeats 4000000 in
theorem c_L_act (l : Launch) (D : va_G) (cs : Nat → ClassId) (ad : Nat → Nat) (M : Mm) (x y : Int32) (z : Nat → Int32) (n d s : Nat) (e : Nat → Nat → Bool) (sM : CS M z n d e s) (tM : LR M z n d e) (hz2 : M.1 135 2 = nI s) : ∀ sz : Nat, Met l yL_act (.code yL_act cL_act 15 (some .boolean) :: TT) { frames := 6, cells := 0, slots := 0, locals := 220 } (va_Pc [.ref (ad 117), .int x, .int y, .ref (ad 135), .ref (ad 136), .ref (ad 137), .ref (ad 138), .ref (ad 139)] (fun U9 => U9.heap.size = sz ∧ wB D cs ad (fA ad sz) M U9 ∧ xX (fA ad sz) U9 U9.heap)) (va_Qi (fun r M2 => r = bI true ∧ ST M2) (wB D cs ad (fA ad sz)) (fA ad sz)) 0 0 (fA ad sz) := by
  have hq := sM.1
  have hzz := gq_gz hq
  have hzz2 := hzz
  obtain ⟨-, -, hn, hd9, ⟨mk, hk⟩, hsy, hw, hl9, hh9, hl0, hh0⟩ := hzz2
  have hn4 := sM.2.1
  have hn8 : n ≤ 8 := hn.2
  have hn1 : 1 ≤ n := hn.1
  have hm := gk_gm hn8 hk
  have he := hq.2.2.2.2.1
  obtain ⟨hBr, hpo⟩ := gz_B hzz
  obtain ⟨lt, hlt6, hlt⟩ := sM.2.2.2.2.2.2.2.2
  have hs6 := sM.2.2.2.2.2.2.1
  have hs3 := sM.2.2.2.2.2.2.2.1
  have hir := sM.2.2.1
  have hd4 := hd9.2
  refine sn_Z (by decide) (Nat.le_of_ble_eq_true rfl) (fun κ C hN E => ?_)
  refine r_lv (lv2 := [(0, .ref (ad 117)), (1, .int x), (2, .int y), (3, .ref (ad 135)), (4, .ref (ad 136)), (5, .ref (ad 137)), (6, .ref (ad 138)), (7, .ref (ad 139))]) [0, 1, 2, 3, 4, 5, 6, 7] rfl ?_
  refine r_iload_n C dL_act_0 rfl 1 rfl ?_
  refine r_bipush C (nI 20) dL_act_1 (by decide) ?_
  refine r_ishr C dL_act_3 ?_
  refine r_bipush C (nI 16) dL_act_4 (by decide) ?_
  refine r_callS_i (nA := 2) C (Nat.le_of_ble_eq_true rfl) [.int (x >>> ((nI 20) &&& 31)), .int (nI 16)] (c_L_at l D cs ad M (x >>> ((nI 20) &&& 31)) 16 (by omega) (by omega)) (tt_S ml_L_56 st_L_at in_L co_L_at) ⟨rfl, rfl⟩ ⟨rfl, by decide, by decide, by decide⟩ ⟨Nat.le_of_ble_eq_true rfl, Nat.le_of_ble_eq_true rfl⟩ rfl rfl (Nat.le_of_ble_eq_true rfl) dL_act_6 (fun ru1 Mu1 qu1 => ?_)
  obtain ⟨⟨m1, hm1, er1⟩, eM1⟩ := qu1
  refine r_mem eM1 ?_
  refine r_topi (w := nI m1) er1 ?_
  refine r_istore C [(8, .int (nI m1)), (0, .ref (ad 117)), (1, .int x), (2, .int y), (3, .ref (ad 135)), (4, .ref (ad 136)), (5, .ref (ad 137)), (6, .ref (ad 138)), (7, .ref (ad 139))] dL_act_9 (by decide) rfl ?_
  refine r_iload_n C dL_act_11 rfl 3 rfl ?_
  refine r_aload_n C dL_act_12 rfl 4 rfl ?_
  refine r_iconst C (nI 0) dL_act_13 (by decide) ?_
  refine r_iald C (id := 135) (n := 3) (a := 0) (by decide) rfl (by decide) (by decide) dL_act_14 ?_
  refine r_topi (w := nI n) (tM).1 ?_
  refine r_callS_i (nA := 2) C (Nat.le_of_ble_eq_true rfl) [.int y, .int (nI n)] (c_L_at l D cs ad M y n (by omega) (by omega)) (tt_S ml_L_56 st_L_at in_L co_L_at) ⟨rfl, rfl⟩ ⟨rfl, by decide, by decide, by decide⟩ ⟨Nat.le_of_ble_eq_true rfl, Nat.le_of_ble_eq_true rfl⟩ rfl rfl (Nat.le_of_ble_eq_true rfl) dL_act_15 (fun ru2 Mu2 qu2 => ?_)
  obtain ⟨⟨m2, hm2, er2⟩, eM2⟩ := qu2
  refine r_mem eM2 ?_
  refine r_topi (w := nI m2) er2 ?_
  refine r_istore C [(9, .int (nI m2)), (8, .int (nI m1)), (0, .ref (ad 117)), (1, .int x), (2, .int y), (3, .ref (ad 135)), (4, .ref (ad 136)), (5, .ref (ad 137)), (6, .ref (ad 138)), (7, .ref (ad 139))] dL_act_18 (by decide) rfl ?_
  refine r_iload_n C dL_act_20 rfl 4 rfl ?_
  refine r_iconst C (nI 2) dL_act_21 (by decide) ?_
  refine r_ishr C dL_act_22 ?_
  refine r_aload_n C dL_act_23 rfl 5 rfl ?_
  refine r_iconst C (nI 0) dL_act_24 (by decide) ?_
  refine r_iald C (id := 135) (n := 3) (a := 0) (by decide) rfl (by decide) (by decide) dL_act_25 ?_
  refine r_topi (w := nI n) (tM).1 ?_
  refine r_callS_i (nA := 2) C (Nat.le_of_ble_eq_true rfl) [.int (y >>> ((nI 2) &&& 31)), .int (nI n)] (c_L_at l D cs ad M (y >>> ((nI 2) &&& 31)) n (by omega) (by omega)) (tt_S ml_L_56 st_L_at in_L co_L_at) ⟨rfl, rfl⟩ ⟨rfl, by decide, by decide, by decide⟩ ⟨Nat.le_of_ble_eq_true rfl, Nat.le_of_ble_eq_true rfl⟩ rfl rfl (Nat.le_of_ble_eq_true rfl) dL_act_26 (fun ru3 Mu3 qu3 => ?_)
  obtain ⟨⟨m3, hm3, er3⟩, eM3⟩ := qu3
  refine r_mem eM3 ?_
  refine r_topi (w := nI m3) er3 ?_
  refine r_istore C [(10, .int (nI m3)), (9, .int (nI m2)), (8, .int (nI m1)), (0, .ref (ad 117)), (1, .int x), (2, .int y), (3, .ref (ad 135)), (4, .ref (ad 136)), (5, .ref (ad 137)), (6, .ref (ad 138)), (7, .ref (ad 139))] dL_act_29 (by decide) rfl ?_
  refine r_aload_n C dL_act_31 rfl 6 rfl ?_
  refine r_iconst C (nI 2) dL_act_32 (by decide) ?_
  refine r_iald C (id := 135) (n := 3) (a := 2) (by decide) rfl (by decide) (by decide) dL_act_33 ?_
  refine r_topi (w := nI s) hz2 ?_
  refine r_bipush C (nI 6) dL_act_34 (by decide) ?_
  refine r_icmpN_ge C 78 dL_act_36 (by decide) (by omega) (by omega) (fun h36 => ?_) (fun h36 => ?_)
  ·
    have hA : A7 M M n d m1 m2 m3 s := A7_0 tM hz2 (svd_6 (by omega))
    refine r_lv (lv2 := [(10, .int (nI m3)), (9, .int (nI m2)), (8, .int (nI m1)), (0, .ref (ad 117)), (1, .int x), (2, .int y), (3, .ref (ad 135)), (4, .ref (ad 136)), (5, .ref (ad 137)), (6, .ref (ad 138)), (7, .ref (ad 139))]) [0, 1, 2, 3, 4, 5, 6, 7, 8, 9, 10] rfl ?_
    exact aB_78 l D cs ad M z n d s e (lk_CS sM (fun i hi => hA.1 i (by omega))) (A7_L hA tM) C hN E x y m1 m2 m3 hm1 hm2 hm3 hA.2.2.2
  ·
    refine r_iload C dL_act_39 2 rfl ?_
    refine r_iconst C (nI 1) dL_act_41 (by decide) ?_
    refine r_icmpN_ne C 52 dL_act_42 (by decide) (by omega) (by omega) (fun h42 => ?_) (fun h42 => ?_)
    ·
      refine r_iload C dL_act_52 2 rfl ?_
      refine r_iconst C (nI 2) dL_act_54 (by decide) ?_
      refine r_icmpN_lt C 71 dL_act_55 (by decide) (by omega) (by omega) (fun h55 => ?_) (fun h55 => ?_)
      ·
        refine r_aload_n C dL_act_71 rfl 6 rfl ?_
        refine r_iconst C (nI 2) dL_act_72 (by decide) ?_
        refine r_dup2_11 C dL_act_73 rfl rfl ?_
        refine r_iald C (id := 135) (n := 3) (a := 2) (by decide) rfl (by decide) (by decide) dL_act_74 ?_
        refine r_topi (w := nI s) hz2 ?_
        refine r_iconst C (nI 1) dL_act_75 (by decide) ?_
        refine r_iadd C dL_act_76 ?_
        refine r_topi (nI_add s 1) ?_
        refine r_iast C (id := 135) (n := 3) (a := 2) (by decide) (fun _ => rfl) (by decide) (by decide) dL_act_77 ?_
        have hA : A7 M (mI M 135 2 (nI (s + 1))) n d m1 m2 m3 s := A7_1 tM ((svd_n (by omega)).trans (mn6_1 (by omega)))
        refine r_lv (lv2 := [(10, .int (nI m3)), (9, .int (nI m2)), (8, .int (nI m1)), (0, .ref (ad 117)), (1, .int x), (2, .int y), (3, .ref (ad 135)), (4, .ref (ad 136)), (5, .ref (ad 137)), (6, .ref (ad 138)), (7, .ref (ad 139))]) [0, 1, 2, 3, 4, 5, 6, 7, 8, 9, 10] rfl ?_
        exact aB_78 l D cs ad (mI M 135 2 (nI (s + 1))) z n d s e (lk_CS sM (fun i hi => hA.1 i (by omega))) (A7_L hA tM) C hN E x y m1 m2 m3 hm1 hm2 hm3 hA.2.2.2
      ·
        refine r_iload C dL_act_58 2 rfl ?_
        refine r_iconst C (nI 4) dL_act_60 (by decide) ?_
        refine r_icmpN_gt C 71 dL_act_61 (by decide) (by omega) (by omega) (fun h61 => ?_) (fun h61 => ?_)
        ·
          refine r_aload_n C dL_act_71 rfl 6 rfl ?_
          refine r_iconst C (nI 2) dL_act_72 (by decide) ?_
          refine r_dup2_11 C dL_act_73 rfl rfl ?_
          refine r_iald C (id := 135) (n := 3) (a := 2) (by decide) rfl (by decide) (by decide) dL_act_74 ?_
          refine r_topi (w := nI s) hz2 ?_
          refine r_iconst C (nI 1) dL_act_75 (by decide) ?_
          refine r_iadd C dL_act_76 ?_
          refine r_topi (nI_add s 1) ?_
          refine r_iast C (id := 135) (n := 3) (a := 2) (by decide) (fun _ => rfl) (by decide) (by decide) dL_act_77 ?_
          have hA : A7 M (mI M 135 2 (nI (s + 1))) n d m1 m2 m3 s := A7_1 tM ((svd_n (by omega)).trans (mn6_1 (by omega)))
          refine r_lv (lv2 := [(10, .int (nI m3)), (9, .int (nI m2)), (8, .int (nI m1)), (0, .ref (ad 117)), (1, .int x), (2, .int y), (3, .ref (ad 135)), (4, .ref (ad 136)), (5, .ref (ad 137)), (6, .ref (ad 138)), (7, .ref (ad 139))]) [0, 1, 2, 3, 4, 5, 6, 7, 8, 9, 10] rfl ?_
          exact aB_78 l D cs ad (mI M 135 2 (nI (s + 1))) z n d s e (lk_CS sM (fun i hi => hA.1 i (by omega))) (A7_L hA tM) C hN E x y m1 m2 m3 hm1 hm2 hm3 hA.2.2.2
        ·
          refine r_iload C dL_act_64 1 rfl ?_
          refine r_iload C dL_act_66 0 rfl ?_
          refine r_icmpN_eq C 78 dL_act_68 (by decide) (by omega) (by omega) (fun h68 => ?_) (fun h68 => ?_)
          ·
            have hA : A7 M M n d m1 m2 m3 s := A7_0 tM hz2 (svd_y (Or.inr (by omega)))
            refine r_lv (lv2 := [(10, .int (nI m3)), (9, .int (nI m2)), (8, .int (nI m1)), (0, .ref (ad 117)), (1, .int x), (2, .int y), (3, .ref (ad 135)), (4, .ref (ad 136)), (5, .ref (ad 137)), (6, .ref (ad 138)), (7, .ref (ad 139))]) [0, 1, 2, 3, 4, 5, 6, 7, 8, 9, 10] rfl ?_
            exact aB_78 l D cs ad M z n d s e (lk_CS sM (fun i hi => hA.1 i (by omega))) (A7_L hA tM) C hN E x y m1 m2 m3 hm1 hm2 hm3 hA.2.2.2
          ·
            refine r_aload_n C dL_act_71 rfl 6 rfl ?_
            refine r_iconst C (nI 2) dL_act_72 (by decide) ?_
            refine r_dup2_11 C dL_act_73 rfl rfl ?_
            refine r_iald C (id := 135) (n := 3) (a := 2) (by decide) rfl (by decide) (by decide) dL_act_74 ?_
            refine r_topi (w := nI s) hz2 ?_
            refine r_iconst C (nI 1) dL_act_75 (by decide) ?_
            refine r_iadd C dL_act_76 ?_
            refine r_topi (nI_add s 1) ?_
            refine r_iast C (id := 135) (n := 3) (a := 2) (by decide) (fun _ => rfl) (by decide) (by decide) dL_act_77 ?_
            have hA : A7 M (mI M 135 2 (nI (s + 1))) n d m1 m2 m3 s := A7_1 tM ((svd_n (by omega)).trans (mn6_1 (by omega)))
            refine r_lv (lv2 := [(10, .int (nI m3)), (9, .int (nI m2)), (8, .int (nI m1)), (0, .ref (ad 117)), (1, .int x), (2, .int y), (3, .ref (ad 135)), (4, .ref (ad 136)), (5, .ref (ad 137)), (6, .ref (ad 138)), (7, .ref (ad 139))]) [0, 1, 2, 3, 4, 5, 6, 7, 8, 9, 10] rfl ?_
            exact aB_78 l D cs ad (mI M 135 2 (nI (s + 1))) z n d s e (lk_CS sM (fun i hi => hA.1 i (by omega))) (A7_L hA tM) C hN E x y m1 m2 m3 hm1 hm2 hm3 hA.2.2.2
    ·
      refine r_aload_n C dL_act_45 rfl 6 rfl ?_
      refine r_iconst C (nI 0) dL_act_46 (by decide) ?_
      refine r_iald C (id := 135) (n := 3) (a := 0) (by decide) rfl (by decide) (by decide) dL_act_47 ?_
      refine r_topi (w := nI n) (tM).1 ?_
      refine r_iconst C (nI 1) dL_act_48 (by decide) ?_
      refine r_icmpN_le C 78 dL_act_49 (by decide) (by omega) (by omega) (fun h49 => ?_) (fun h49 => ?_)
      ·
        have hA : A7 M M n d m1 m2 m3 s := A7_0 tM hz2 (svd_y (Or.inl (by omega)))
        refine r_lv (lv2 := [(10, .int (nI m3)), (9, .int (nI m2)), (8, .int (nI m1)), (0, .ref (ad 117)), (1, .int x), (2, .int y), (3, .ref (ad 135)), (4, .ref (ad 136)), (5, .ref (ad 137)), (6, .ref (ad 138)), (7, .ref (ad 139))]) [0, 1, 2, 3, 4, 5, 6, 7, 8, 9, 10] rfl ?_
        exact aB_78 l D cs ad M z n d s e (lk_CS sM (fun i hi => hA.1 i (by omega))) (A7_L hA tM) C hN E x y m1 m2 m3 hm1 hm2 hm3 hA.2.2.2
      ·
        refine r_iload C dL_act_52 2 rfl ?_
        refine r_iconst C (nI 2) dL_act_54 (by decide) ?_
        refine r_icmpN_lt C 71 dL_act_55 (by decide) (by omega) (by omega) (fun h55 => ?_) (fun h55 => ?_)
        ·
          refine r_aload_n C dL_act_71 rfl 6 rfl ?_
          refine r_iconst C (nI 2) dL_act_72 (by decide) ?_
          refine r_dup2_11 C dL_act_73 rfl rfl ?_
          refine r_iald C (id := 135) (n := 3) (a := 2) (by decide) rfl (by decide) (by decide) dL_act_74 ?_
          refine r_topi (w := nI s) hz2 ?_
          refine r_iconst C (nI 1) dL_act_75 (by decide) ?_
          refine r_iadd C dL_act_76 ?_
          refine r_topi (nI_add s 1) ?_
          refine r_iast C (id := 135) (n := 3) (a := 2) (by decide) (fun _ => rfl) (by decide) (by decide) dL_act_77 ?_
          have hA : A7 M (mI M 135 2 (nI (s + 1))) n d m1 m2 m3 s := A7_1 tM ((svd_n (by omega)).trans (mn6_1 (by omega)))
          refine r_lv (lv2 := [(10, .int (nI m3)), (9, .int (nI m2)), (8, .int (nI m1)), (0, .ref (ad 117)), (1, .int x), (2, .int y), (3, .ref (ad 135)), (4, .ref (ad 136)), (5, .ref (ad 137)), (6, .ref (ad 138)), (7, .ref (ad 139))]) [0, 1, 2, 3, 4, 5, 6, 7, 8, 9, 10] rfl ?_
          exact aB_78 l D cs ad (mI M 135 2 (nI (s + 1))) z n d s e (lk_CS sM (fun i hi => hA.1 i (by omega))) (A7_L hA tM) C hN E x y m1 m2 m3 hm1 hm2 hm3 hA.2.2.2
        ·
          refine r_iload C dL_act_58 2 rfl ?_
          refine r_iconst C (nI 4) dL_act_60 (by decide) ?_
          refine r_icmpN_gt C 71 dL_act_61 (by decide) (by omega) (by omega) (fun h61 => ?_) (fun h61 => ?_)
          ·
            refine r_aload_n C dL_act_71 rfl 6 rfl ?_
            refine r_iconst C (nI 2) dL_act_72 (by decide) ?_
            refine r_dup2_11 C dL_act_73 rfl rfl ?_
            refine r_iald C (id := 135) (n := 3) (a := 2) (by decide) rfl (by decide) (by decide) dL_act_74 ?_
            refine r_topi (w := nI s) hz2 ?_
            refine r_iconst C (nI 1) dL_act_75 (by decide) ?_
            refine r_iadd C dL_act_76 ?_
            refine r_topi (nI_add s 1) ?_
            refine r_iast C (id := 135) (n := 3) (a := 2) (by decide) (fun _ => rfl) (by decide) (by decide) dL_act_77 ?_
            have hA : A7 M (mI M 135 2 (nI (s + 1))) n d m1 m2 m3 s := A7_1 tM ((svd_n (by omega)).trans (mn6_1 (by omega)))
            refine r_lv (lv2 := [(10, .int (nI m3)), (9, .int (nI m2)), (8, .int (nI m1)), (0, .ref (ad 117)), (1, .int x), (2, .int y), (3, .ref (ad 135)), (4, .ref (ad 136)), (5, .ref (ad 137)), (6, .ref (ad 138)), (7, .ref (ad 139))]) [0, 1, 2, 3, 4, 5, 6, 7, 8, 9, 10] rfl ?_
            exact aB_78 l D cs ad (mI M 135 2 (nI (s + 1))) z n d s e (lk_CS sM (fun i hi => hA.1 i (by omega))) (A7_L hA tM) C hN E x y m1 m2 m3 hm1 hm2 hm3 hA.2.2.2
          ·
            refine r_iload C dL_act_64 1 rfl ?_
            refine r_iload C dL_act_66 0 rfl ?_
            refine r_icmpN_eq C 78 dL_act_68 (by decide) (by omega) (by omega) (fun h68 => ?_) (fun h68 => ?_)
            ·
              have hA : A7 M M n d m1 m2 m3 s := A7_0 tM hz2 (svd_y (Or.inr (by omega)))
              refine r_lv (lv2 := [(10, .int (nI m3)), (9, .int (nI m2)), (8, .int (nI m1)), (0, .ref (ad 117)), (1, .int x), (2, .int y), (3, .ref (ad 135)), (4, .ref (ad 136)), (5, .ref (ad 137)), (6, .ref (ad 138)), (7, .ref (ad 139))]) [0, 1, 2, 3, 4, 5, 6, 7, 8, 9, 10] rfl ?_
              exact aB_78 l D cs ad M z n d s e (lk_CS sM (fun i hi => hA.1 i (by omega))) (A7_L hA tM) C hN E x y m1 m2 m3 hm1 hm2 hm3 hA.2.2.2
            ·
              refine r_aload_n C dL_act_71 rfl 6 rfl ?_
              refine r_iconst C (nI 2) dL_act_72 (by decide) ?_
              refine r_dup2_11 C dL_act_73 rfl rfl ?_
              refine r_iald C (id := 135) (n := 3) (a := 2) (by decide) rfl (by decide) (by decide) dL_act_74 ?_
              refine r_topi (w := nI s) hz2 ?_
              refine r_iconst C (nI 1) dL_act_75 (by decide) ?_
              refine r_iadd C dL_act_76 ?_
              refine r_topi (nI_add s 1) ?_
              refine r_iast C (id := 135) (n := 3) (a := 2) (by decide) (fun _ => rfl) (by decide) (by decide) dL_act_77 ?_
              have hA : A7 M (mI M 135 2 (nI (s + 1))) n d m1 m2 m3 s := A7_1 tM ((svd_n (by omega)).trans (mn6_1 (by omega)))
              refine r_lv (lv2 := [(10, .int (nI m3)), (9, .int (nI m2)), (8, .int (nI m1)), (0, .ref (ad 117)), (1, .int x), (2, .int y), (3, .ref (ad 135)), (4, .ref (ad 136)), (5, .ref (ad 137)), (6, .ref (ad 138)), (7, .ref (ad 139))]) [0, 1, 2, 3, 4, 5, 6, 7, 8, 9, 10] rfl ?_
              exact aB_78 l D cs ad (mI M 135 2 (nI (s + 1))) z n d s e (lk_CS sM (fun i hi => hA.1 i (by omega))) (A7_L hA tM) C hN E x y m1 m2 m3 hm1 hm2 hm3 hA.2.2.2
