/-! ===== the law's method bound (written by wip/p30/gen/lm2.py) ===== -/
theorem lgcN_lt {a b : Nat} (ha : a < 2 ^ 63) (hb : b < 2 ^ 63) : (lg_cmp (lN a) (lN b) < 0) = (a < b) := by
  rw [← Int32.not_le, lgcN_ge ha hb]
  exact propext Nat.not_le
theorem lgc_ne (x y : Int64) : (lg_cmp x y = 0) = (x = y) := lgc_eq x y
theorem pv_i (w : Nat) : nI w + Int32.ofInt (-1) = pvI w := by
  unfold pvI; rw [Int32.sub_eq_add_neg]; exact congrArg (fun x => nI w + x) (by decide)
set_option maxRecDepth 100000 in
set_option maxHeartbeats 4000000 in
theorem c_L_bound (l : Launch) (D : va_G) (cs : Nat → ClassId) (ad : Nat → Nat) (M : Mm) (z : Nat → Int32) (n d s : Nat) (e : Nat → Nat → Bool) (sM : CS M z n d e s) (tM : LR M z n d e) : ∀ sz : Nat, Met l yL_bound (.code yL_bound cL_bound 18 (some .boolean) :: TT) { frames := 43, cells := 0, slots := 0, locals := 1063 } (va_Pc [.ref (ad 117), .ref (ad 135), .ref (ad 136), .ref (ad 137), .ref (ad 138), .ref (ad 139)] (fun U9 => U9.heap.size = sz ∧ wB D cs ad (fA ad sz) M U9 ∧ xX (fA ad sz) U9 U9.heap)) (va_Qi (fun r M2 => r = bI true ∧ lkP M M2) (wB D cs ad (fA ad sz)) (fA ad sz)) 0 0 (fA ad sz) := by
  have hq := sM.1
  have hzz := gq_gz hq
  have hzz2 := hzz
  obtain ⟨-, -, hn, hd9, ⟨mk, hk⟩, hsy, hw, hl9, hh9, hl0, hh0⟩ := hzz2
  have hn4 := sM.2.1
  have hn8 : n ≤ 8 := hn.2
  have hn1 : 1 ≤ n := hn.1
  have hm := gk_gm hn8 hk
  have he := hq.2.2.2.2.1
  obtain ⟨hBr, hpo⟩ := gz_B hzz
  have kM := lk_0 M
  refine sn_Z (by decide) (Nat.le_of_ble_eq_true rfl) (fun κ C hN E => ?_)
  refine r_lv (lv2 := [(0, .ref (ad 117)), (1, .ref (ad 135)), (2, .ref (ad 136)), (3, .ref (ad 137)), (4, .ref (ad 138)), (5, .ref (ad 139))]) [0, 1, 2, 3, 4, 5] rfl ?_
  refine r_aload_n C dL_bound_0 rfl 1 rfl ?_
  refine r_aload_n C dL_bound_1 rfl 3 rfl ?_
  refine r_aload C dL_bound_2 4 rfl ?_
  refine r_callS_i (nA := 3) C (Nat.le_of_ble_eq_true rfl) [.ref (ad 135), .ref (ad 137), .ref (ad 138)] (c_L_misfit l D cs ad M  z n d e tM hn4 he mk hk) (tt_S ml_L_14 st_L_misfit in_L co_L_misfit) ⟨rfl, rfl⟩ ⟨rfl, by decide, by decide, by decide⟩ ⟨Nat.le_of_ble_eq_true rfl, Nat.le_of_ble_eq_true rfl⟩ rfl rfl (Nat.le_of_ble_eq_true rfl) dL_bound_4 (fun ru1 Mu1 qu1 => ?_)
  refine r_mem qu1.2 ?_
  have hMF := qu1.1
  clear qu1
  refine r_istore C [(6, .int ru1), (0, .ref (ad 117)), (1, .ref (ad 135)), (2, .ref (ad 136)), (3, .ref (ad 137)), (4, .ref (ad 138)), (5, .ref (ad 139))] dL_bound_7 (by decide) rfl ?_
  refine r_aload_n C dL_bound_9 rfl 2 rfl ?_
  refine r_aload_n C dL_bound_10 rfl 3 rfl ?_
  refine r_aload C dL_bound_11 5 rfl ?_
  refine r_aload C dL_bound_13 6 rfl ?_
  refine r_pcallS_i (nA := 4) C (Nat.le_of_ble_eq_true rfl) [.ref (ad 135), .ref (ad 136), .ref (ad 138), .ref (ad 139)] (c_L_unreached l D cs ad M  z n d e tM hn4 he mk hk) (tt_S ml_L_18 st_L_unreached in_L co_L_unreached) ⟨rfl, rfl⟩ ⟨rfl, by decide, by decide, by decide⟩ ⟨Nat.le_of_ble_eq_true rfl, Nat.le_of_ble_eq_true rfl⟩ rfl rfl (Nat.le_of_ble_eq_true rfl) dL_bound_15 ?_
  rcases hMF with ⟨hmf, rfl⟩ | ⟨a, b, ha, hb, hmf, rfl⟩
  ·
    rcases up_c z hn8 with hup | ⟨v, hv, hup⟩
    ·
      have hrs := rs_0 hmf hup
      have hB := hBr hrs
      have hpos9 := hpo hrs
      obtain ⟨w9, hw72, hwz, hwle⟩ := hv_le hzz hk hrs
      have hSp : ∀ v, v < n → 0 < wtz z v → 0 < Sz z v := hB.2.2.2.2.2
      have hdb := ds_bn (n := n) hSp hpos9
      have hH9 := hB.2.2.2.2.1
      refine r_topi (w := -1) hup ?_
      refine r_istore C [(7, .int (-1)), (6, .int (-1)), (0, .ref (ad 117)), (1, .ref (ad 135)), (2, .ref (ad 136)), (3, .ref (ad 137)), (4, .ref (ad 138)), (5, .ref (ad 139))] dL_bound_18 (by decide) rfl ?_
      refine r_iload C dL_bound_20 1 rfl ?_
      refine r_if_lt C 97 dL_bound_22 (by decide) (fun h22 => ?_) (fun h22 => ?_)
      ·
        refine r_iload C dL_bound_97 0 rfl ?_
        refine r_if_lt C 148 dL_bound_99 (by decide) (fun h99 => ?_) (fun h99 => ?_)
        ·
          refine r_lconst C (lN 0) dL_bound_148 rfl ?_
          refine r_lstore C [(8, .long (lN 0)), (7, .int (-1)), (6, .int (-1)), (0, .ref (ad 117)), (1, .ref (ad 135)), (2, .ref (ad 136)), (3, .ref (ad 137)), (4, .ref (ad 138)), (5, .ref (ad 139))] dL_bound_149 (by decide) rfl ?_
          refine r_lconst C (lN 1) dL_bound_151 rfl ?_
          refine r_lstore C [(10, .long (lN 1)), (8, .long (lN 0)), (7, .int (-1)), (6, .int (-1)), (0, .ref (ad 117)), (1, .ref (ad 135)), (2, .ref (ad 136)), (3, .ref (ad 137)), (4, .ref (ad 138)), (5, .ref (ad 139))] dL_bound_152 (by decide) rfl ?_
          refine r_iconst C ((-1)) dL_bound_154 (by decide) ?_
          refine r_istore C [(12, .int (-1)), (10, .long (lN 1)), (8, .long (lN 0)), (7, .int (-1)), (6, .int (-1)), (0, .ref (ad 117)), (1, .ref (ad 135)), (2, .ref (ad 136)), (3, .ref (ad 137)), (4, .ref (ad 138)), (5, .ref (ad 139))] dL_bound_155 (by decide) rfl ?_
          refine r_aload_n C dL_bound_157 rfl 6 rfl ?_
          refine r_iconst C (nI 0) dL_bound_158 (by decide) ?_
          refine r_iald C (id := 135) (n := 3) (a := 0) (by decide) rfl (by decide) (by decide) dL_bound_159 ?_
          refine r_topi (w := nI n) (tM).1 ?_
          refine r_iconst C (nI 1) dL_bound_160 (by decide) ?_
          refine r_isub C dL_bound_161 ?_
          refine r_topi (pk_sub (a := n) (b := 1) (by omega)) ?_
          refine r_topi (w := pvI (n - 0)) (by rw [show n - 0 = n - 1 + 1 by omega, pv_s]) ?_
          refine r_istore C [(13, .int (pvI (n - 0))), (12, .int (-1)), (10, .long (lN 1)), (8, .long (lN 0)), (7, .int (-1)), (6, .int (-1)), (0, .ref (ad 117)), (1, .ref (ad 135)), (2, .ref (ad 136)), (3, .ref (ad 137)), (4, .ref (ad 138)), (5, .ref (ad 139))] dL_bound_162 (by decide) rfl ?_
          have Lp : ∀ (f k : Nat), n + 1 ≤ k + f → k ≤ n → VV l D cs ad 18 κ 0 M 164 [(13, .int (pvI (n - k))), (8, .long (lN ((dsS (wtz z) (Uz z) (Sz z) (Hz z) n k).1))), (10, .long (lN ((dsS (wtz z) (Uz z) (Sz z) (Hz z) n k).2.1))), (12, .int (tel (dsS (wtz z) (Uz z) (Sz z) (Hz z) n k).2.2)), (0, .ref (ad 117)), (1, .ref (ad 135)), (2, .ref (ad 136)), (3, .ref (ad 137)), (4, .ref (ad 138)), (5, .ref (ad 139))] [] := by
            intro f
            induction f with
            | zero => intro k hk1 hk2; exact absurd hk1 (by omega)
            | succ f ih =>
              intro k hk1 hk2
              refine r_iload C dL_bound_164 0 rfl ?_
              refine r_if_lt C 264 dL_bound_166 (by decide) (fun h166 => ?_) (fun h166 => ?_)
              ·
                have hk9 : n = k := by have := (pv_lt (by omega)).mp h166; omega
                subst hk9
                refine r_lv (lv2 := [(8, .long (lN ((dsS (wtz z) (Uz z) (Sz z) (Hz z) n n).1))), (10, .long (lN ((dsS (wtz z) (Uz z) (Sz z) (Hz z) n n).2.1))), (12, .int (tel (dsS (wtz z) (Uz z) (Sz z) (Hz z) n n).2.2)), (0, .ref (ad 117)), (1, .ref (ad 135)), (2, .ref (ad 136)), (3, .ref (ad 137)), (4, .ref (ad 138)), (5, .ref (ad 139))]) [1, 2, 3, 4, 5, 6, 7, 8, 9] rfl ?_
                refine r_lve (lv2 := [(8, .long (lN ((bnS (wtz z) (Uz z) (Sz z) (Hz z) n).1))), (10, .long (lN ((bnS (wtz z) (Uz z) (Sz z) (Hz z) n).2.1))), (12, .int (tel (bnS (wtz z) (Uz z) (Sz z) (Hz z) n).2.2)), (0, .ref (ad 117)), (1, .ref (ad 135)), (2, .ref (ad 136)), (3, .ref (ad 137)), (4, .ref (ad 138)), (5, .ref (ad 139))]) (by rw [hdb]) ?_
                have hab := bnS_le hB n (Nat.le_refl n)
                have hgp : 0 < Nat.gcd (bnS (wtz z) (Uz z) (Sz z) (Hz z) n).1 (bnS (wtz z) (Uz z) (Sz z) (Hz z) n).2.1 := Nat.gcd_pos_of_pos_right _ hab.2.1
                have hgl : Nat.gcd (bnS (wtz z) (Uz z) (Sz z) (Hz z) n).1 (bnS (wtz z) (Uz z) (Sz z) (Hz z) n).2.1 ≤ (bnS (wtz z) (Uz z) (Sz z) (Hz z) n).2.1 := Nat.le_of_dvd hab.2.1 (Nat.gcd_dvd_right _ _)
                refine r_lload C dL_bound_264 0 rfl ?_
                refine r_lload C dL_bound_266 1 rfl ?_
                refine r_pcallS_l (nA := 2) C (Nat.le_of_ble_eq_true rfl) [.long (lN ((bnS (wtz z) (Uz z) (Sz z) (Hz z) n).1)), .long (lN ((bnS (wtz z) (Uz z) (Sz z) (Hz z) n).2.1))] (c_L_gcd l D cs ad M  (bnS (wtz z) (Uz z) (Sz z) (Hz z) n).1 (bnS (wtz z) (Uz z) (Sz z) (Hz z) n).2.1 (by omega) (by omega)) (tt_S ml_L_38 st_L_gcd in_L co_L_gcd) ⟨rfl, rfl⟩ ⟨rfl, by decide, by decide, by decide⟩ ⟨Nat.le_of_ble_eq_true rfl, Nat.le_of_ble_eq_true rfl⟩ rfl rfl (Nat.le_of_ble_eq_true rfl) dL_bound_268 ?_
                refine r_lstore C [(13, .long (lN (Nat.gcd (bnS (wtz z) (Uz z) (Sz z) (Hz z) n).1 (bnS (wtz z) (Uz z) (Sz z) (Hz z) n).2.1))), (8, .long (lN ((bnS (wtz z) (Uz z) (Sz z) (Hz z) n).1))), (10, .long (lN ((bnS (wtz z) (Uz z) (Sz z) (Hz z) n).2.1))), (12, .int (tel (bnS (wtz z) (Uz z) (Sz z) (Hz z) n).2.2)), (0, .ref (ad 117)), (1, .ref (ad 135)), (2, .ref (ad 136)), (3, .ref (ad 137)), (4, .ref (ad 138)), (5, .ref (ad 139))] dL_bound_271 (by decide) rfl ?_
                refine r_aload_n C dL_bound_273 rfl 4 rfl ?_
                refine r_iconst C (nI 0) dL_bound_274 (by decide) ?_
                refine r_npcallV_i (nA := 1) C hN (Nat.le_of_ble_eq_true rfl) [.int (nI 0)] (c_X7_whyNot l D cs ad M  z n d sM.2.2.2.1 hn8 hm mk hk 0 (by decide)) (tt_V ml_L_22 im_X7_whyNot se_X7_whyNot in_X7 co_X7_whyNot) ⟨rfl, rfl⟩ ⟨rfl, by decide, by decide, by decide⟩ ⟨Nat.le_of_ble_eq_true rfl, Nat.le_of_ble_eq_true rfl⟩ (by decide) rfl rfl rfl rfl rfl (Nat.le_of_ble_eq_true rfl) dL_bound_275 ?_
                refine r_topi (w := nI 0) ((rn_c1 (p := 0) hmf).trans (if_pos hup)) ?_
                refine r_if_ne C 349 dL_bound_278 (by decide) (fun h278 => ?_) (fun h278 => ?_)
                · exact absurd rfl h278
                ·
                  refine r_aload_n C dL_bound_281 rfl 4 rfl ?_
                  refine r_iconst C (nI 1) dL_bound_282 (by decide) ?_
                  refine r_npcallV_i (nA := 1) C hN (Nat.le_of_ble_eq_true rfl) [.int (nI 1)] (c_X7_whyNot l D cs ad M  z n d sM.2.2.2.1 hn8 hm mk hk 1 (by decide)) (tt_V ml_L_22 im_X7_whyNot se_X7_whyNot in_X7 co_X7_whyNot) ⟨rfl, rfl⟩ ⟨rfl, by decide, by decide, by decide⟩ ⟨Nat.le_of_ble_eq_true rfl, Nat.le_of_ble_eq_true rfl⟩ (by decide) rfl rfl rfl rfl rfl (Nat.le_of_ble_eq_true rfl) dL_bound_283 ?_
                  refine r_topi (w := (-1)) ((rn_c1 (p := 1) hmf).trans hup) ?_
                  refine r_iconst C ((-1)) dL_bound_286 (by decide) ?_
                  refine r_icmp_ne C 349 dL_bound_287 (by decide) (fun h287 => ?_) (fun h287 => ?_)
                  · exact absurd rfl h287
                  ·
                    refine r_aload_n C dL_bound_290 rfl 4 rfl ?_
                    refine r_iconst C (nI 0) dL_bound_291 (by decide) ?_
                    refine r_ncallV_l (nA := 1) C hN (Nat.le_of_ble_eq_true rfl) [.int (nI 0)] (c_X7_bound l D cs ad M  z n d sM.2.2.2.1 hn8 hm mk hk (wtz z) (Uz z) (Sz z) (Hz z) hBr hpo 0 (by decide)) (tt_V ml_L_28 im_X7_bound se_X7_bound in_X7 co_X7_bound) ⟨rfl, rfl⟩ ⟨rfl, by decide, by decide, by decide⟩ ⟨Nat.le_of_ble_eq_true rfl, Nat.le_of_ble_eq_true rfl⟩ (by decide) rfl rfl rfl rfl rfl (Nat.le_of_ble_eq_true rfl) dL_bound_292 (fun ru2 Mu2 qu2 => ?_)
                    have sMu2 := lkC sM qu2.2
                    have tMu2 := lkL tM qu2.2
                    have kMu2 := kM.tr qu2.2
                    refine r_topl (w := lN (bnA (wtz z) (Uz z) (Sz z) (Hz z) n)) (qu2.1.trans ((if_pos hrs).trans rfl)) ?_
                    refine r_lload C dL_bound_295 1 rfl ?_
                    refine r_lload C dL_bound_297 0 rfl ?_
                    refine r_ldiv C dL_bound_299 (fun q => by have h8 := (lgcN_eq (a := Nat.gcd (bnS (wtz z) (Uz z) (Sz z) (Hz z) n).1 (bnS (wtz z) (Uz z) (Sz z) (Hz z) n).2.1) (b := 0) (by omega) (by decide)); rw [lgc_eq] at h8; have := h8.mp q; omega) ?_
                    refine r_topl (w := lN (((bnS (wtz z) (Uz z) (Sz z) (Hz z) n).1) / (Nat.gcd (bnS (wtz z) (Uz z) (Sz z) (Hz z) n).1 (bnS (wtz z) (Uz z) (Sz z) (Hz z) n).2.1))) (pk_lDiv (by omega) (by omega) (by omega)) ?_
                    refine r_lcmp C dL_bound_300 ?_
                    refine r_if_ne C 349 dL_bound_301 (by decide) (fun h301 => ?_) (fun h301 => ?_)
                    · exact absurd (lgcT _) h301
                    ·
                      rw [lgc_ne] at h301
                      refine r_aload_n C dL_bound_304 rfl 4 rfl ?_
                      refine r_iconst C (nI 1) dL_bound_305 (by decide) ?_
                      refine r_ncallV_l (nA := 1) C hN (Nat.le_of_ble_eq_true rfl) [.int (nI 1)] (c_X7_bound l D cs ad Mu2  z n d sMu2.2.2.2.1 hn8 hm mk hk (wtz z) (Uz z) (Sz z) (Hz z) hBr hpo 1 (by decide)) (tt_V ml_L_28 im_X7_bound se_X7_bound in_X7 co_X7_bound) ⟨rfl, rfl⟩ ⟨rfl, by decide, by decide, by decide⟩ ⟨Nat.le_of_ble_eq_true rfl, Nat.le_of_ble_eq_true rfl⟩ (by decide) rfl rfl rfl rfl rfl (Nat.le_of_ble_eq_true rfl) dL_bound_306 (fun ru3 Mu3 qu3 => ?_)
                      have sMu3 := lkC sMu2 qu3.2
                      have tMu3 := lkL tMu2 qu3.2
                      have kMu3 := kMu2.tr qu3.2
                      refine r_topl (w := lN (bnB (wtz z) (Uz z) (Sz z) (Hz z) n)) (qu3.1.trans ((if_pos hrs).trans rfl)) ?_
                      refine r_lload C dL_bound_309 2 rfl ?_
                      refine r_lload C dL_bound_311 0 rfl ?_
                      refine r_ldiv C dL_bound_313 (fun q => by have h8 := (lgcN_eq (a := Nat.gcd (bnS (wtz z) (Uz z) (Sz z) (Hz z) n).1 (bnS (wtz z) (Uz z) (Sz z) (Hz z) n).2.1) (b := 0) (by omega) (by decide)); rw [lgc_eq] at h8; have := h8.mp q; omega) ?_
                      refine r_topl (w := lN (((bnS (wtz z) (Uz z) (Sz z) (Hz z) n).2.1) / (Nat.gcd (bnS (wtz z) (Uz z) (Sz z) (Hz z) n).1 (bnS (wtz z) (Uz z) (Sz z) (Hz z) n).2.1))) (pk_lDiv (by omega) (by omega) (by omega)) ?_
                      refine r_lcmp C dL_bound_314 ?_
                      refine r_if_ne C 349 dL_bound_315 (by decide) (fun h315 => ?_) (fun h315 => ?_)
                      · exact absurd (lgcT _) h315
                      ·
                        rw [lgc_ne] at h315
                        refine r_aload_n C dL_bound_318 rfl 4 rfl ?_
                        refine r_iconst C (nI 2) dL_bound_319 (by decide) ?_
                        refine r_ncallV_l (nA := 1) C hN (Nat.le_of_ble_eq_true rfl) [.int (nI 2)] (c_X7_bound l D cs ad Mu3  z n d sMu3.2.2.2.1 hn8 hm mk hk (wtz z) (Uz z) (Sz z) (Hz z) hBr hpo 2 (by decide)) (tt_V ml_L_28 im_X7_bound se_X7_bound in_X7 co_X7_bound) ⟨rfl, rfl⟩ ⟨rfl, by decide, by decide, by decide⟩ ⟨Nat.le_of_ble_eq_true rfl, Nat.le_of_ble_eq_true rfl⟩ (by decide) rfl rfl rfl rfl rfl (Nat.le_of_ble_eq_true rfl) dL_bound_320 (fun ru4 Mu4 qu4 => ?_)
                        have sMu4 := lkC sMu3 qu4.2
                        have tMu4 := lkL tMu3 qu4.2
                        have kMu4 := kMu3.tr qu4.2
                        refine r_topl (w := (tel (bnS (wtz z) (Uz z) (Sz z) (Hz z) n).2.2).toInt64) (qu4.1.trans ((if_pos hrs).trans rfl)) ?_
                        refine r_iload C dL_bound_323 3 rfl ?_
                        refine r_i2l C dL_bound_325 ?_
                        refine r_lcmp C dL_bound_326 ?_
                        refine r_if_ne C 349 dL_bound_327 (by decide) (fun h327 => ?_) (fun h327 => ?_)
                        · exact absurd (lgcT _) h327
                        ·
                          rw [lgc_ne] at h327
                          refine r_aload_n C dL_bound_330 rfl 4 rfl ?_
                          refine r_iconst C (nI 3) dL_bound_331 (by decide) ?_
                          refine r_ncallV_i (nA := 1) C hN (Nat.le_of_ble_eq_true rfl) [.int (nI 3)] (c_X7_count l D cs ad Mu4  z n d sMu4.2.2.2.1 hn8 hm mk (wtz z) hk hw hsy hn1 sMu4.2.2.2.2.1 (fun k q => Or.inl (sMu4.2.2.2.2.2.1 k q)) 3 (by decide)) (tt_V ml_L_42 im_X7_count se_X7_count in_X7 co_X7_count) ⟨rfl, rfl⟩ ⟨rfl, by decide, by decide, by decide⟩ ⟨Nat.le_of_ble_eq_true rfl, Nat.le_of_ble_eq_true rfl⟩ (by decide) rfl rfl rfl rfl rfl (Nat.le_of_ble_eq_true rfl) dL_bound_332 (fun ru5 Mu5 qu5 => ?_)
                          have sMu5 := lkC sMu4 qu5.2
                          have tMu5 := lkL tMu4 qu5.2
                          have kMu5 := kMu4.tr qu5.2
                          refine r_topi (w := nI w9) (qu5.1.trans (hwz)) ?_
                          refine r_i2l C dL_bound_335 ?_
                          refine r_topl (w := lN w9) (nI_l (by omega)) ?_
                          refine r_lload C dL_bound_336 2 rfl ?_
                          refine r_lmul C dL_bound_338 ?_
                          refine r_topl (w := lN (w9 * ((bnS (wtz z) (Uz z) (Sz z) (Hz z) n).2.1))) (lN_mul _ _) ?_
                          refine r_lload C dL_bound_339 1 rfl ?_
                          refine r_lcmp C dL_bound_341 ?_
                          refine r_if_gt C 349 dL_bound_342 (by decide) (fun h342 => ?_) (fun h342 => ?_)
                          · exact absurd h342 (by rw [lgcN_gt (by omega) (by omega)]; omega)
                          ·
                            rw [lgcN_gt (by omega) (by omega)] at h342
                            refine r_iconst C (nI 1) dL_bound_345 (by decide) ?_
                            refine r_goto C 350 dL_bound_346 (by decide) ?_
                            exact E 0 _ _ _ _ (Nat.le_of_ble_eq_true rfl) dL_bound_350 rfl (⟨rfl, kMu5⟩)
              ·
                have hk9 : ¬ n - k = 0 := fun q => h166 ((pv_lt (by omega)).mpr q)
                obtain ⟨w, hw9⟩ : ∃ w, n - k = w + 1 := ⟨n - k - 1, by omega⟩
                have hU9 := (hB.2.1 w (by omega)).2
                have hw8 := (hB.1 w (by omega)).2
                have hS9 := (hB.2.2.1 w (by omega)).2
                have hd7 := ds_le hB (k := k) (by omega)
                refine r_lve (lv2 := [(13, .int (nI w)), (8, .long (lN ((dsS (wtz z) (Uz z) (Sz z) (Hz z) n k).1))), (10, .long (lN ((dsS (wtz z) (Uz z) (Sz z) (Hz z) n k).2.1))), (12, .int (tel (dsS (wtz z) (Uz z) (Sz z) (Hz z) n k).2.2)), (0, .ref (ad 117)), (1, .ref (ad 135)), (2, .ref (ad 136)), (3, .ref (ad 137)), (4, .ref (ad 138)), (5, .ref (ad 139))]) (by rw [hw9, pv_s]) ?_
                refine r_aload_n C dL_bound_169 rfl 6 rfl ?_
                refine r_iload C dL_bound_170 0 rfl ?_
                refine r_iald C (id := 136) (n := 4) (a := w) (by decide) rfl (by omega) (by decide) dL_bound_172 ?_
                refine r_topi (w := nI (wtz z w)) ((tM.2.2.1 w (by omega)).trans (hB.1 w (by omega)).1) ?_
                refine r_ifN_le C 258 dL_bound_173 (by decide) (by omega) (fun h173 => ?_) (fun h173 => ?_)
                ·
                  have hds : (dsS (wtz z) (Uz z) (Sz z) (Hz z) n (k + 1)) = (dsS (wtz z) (Uz z) (Sz z) (Hz z) n k) := ds_n hw9 (Or.inl (by omega))
                  refine r_lve (lv2 := [(13, .int (nI w)), (8, .long (lN ((dsS (wtz z) (Uz z) (Sz z) (Hz z) n (k + 1)).1))), (10, .long (lN ((dsS (wtz z) (Uz z) (Sz z) (Hz z) n (k + 1)).2.1))), (12, .int (tel (dsS (wtz z) (Uz z) (Sz z) (Hz z) n (k + 1)).2.2)), (0, .ref (ad 117)), (1, .ref (ad 135)), (2, .ref (ad 136)), (3, .ref (ad 137)), (4, .ref (ad 138)), (5, .ref (ad 139))]) (by rw [hds]) ?_
                  refine r_iinc C ((pvI (n - (k + 1)))) [(13, .int (pvI (n - (k + 1)))), (8, .long (lN ((dsS (wtz z) (Uz z) (Sz z) (Hz z) n (k + 1)).1))), (10, .long (lN ((dsS (wtz z) (Uz z) (Sz z) (Hz z) n (k + 1)).2.1))), (12, .int (tel (dsS (wtz z) (Uz z) (Sz z) (Hz z) n (k + 1)).2.2)), (0, .ref (ad 117)), (1, .ref (ad 135)), (2, .ref (ad 136)), (3, .ref (ad 137)), (4, .ref (ad 138)), (5, .ref (ad 139))] dL_bound_258 (j := 0) rfl ((pv_i w).trans (by rw [show n - (k + 1) = w by omega])) (by decide) rfl ?_
                  refine r_goto C 164 dL_bound_261 (by decide) ?_
                  refine r_lv (lv2 := [(13, .int (pvI (n - (k + 1)))), (8, .long (lN ((dsS (wtz z) (Uz z) (Sz z) (Hz z) n (k + 1)).1))), (10, .long (lN ((dsS (wtz z) (Uz z) (Sz z) (Hz z) n (k + 1)).2.1))), (12, .int (tel (dsS (wtz z) (Uz z) (Sz z) (Hz z) n (k + 1)).2.2)), (0, .ref (ad 117)), (1, .ref (ad 135)), (2, .ref (ad 136)), (3, .ref (ad 137)), (4, .ref (ad 138)), (5, .ref (ad 139))]) [0, 1, 2, 3, 4, 5, 6, 7, 8, 9] rfl ?_
                  exact ih (k + 1) (by omega) (by omega)
                ·
                  refine r_aload_n C dL_bound_176 rfl 6 rfl ?_
                  refine r_iload C dL_bound_177 0 rfl ?_
                  refine r_iald C (id := 136) (n := 4) (a := w) (by decide) rfl (by omega) (by decide) dL_bound_179 ?_
                  refine r_topi (w := nI (wtz z w)) ((tM.2.2.1 w (by omega)).trans (hB.1 w (by omega)).1) ?_
                  refine r_i2l C dL_bound_180 ?_
                  refine r_topl (w := lN (wtz z w)) (nI_l (by omega)) ?_
                  refine r_aload C dL_bound_181 9 rfl ?_
                  refine r_iconst C (nI 0) dL_bound_183 (by decide) ?_
                  refine r_aload C dL_bound_184 9 rfl ?_
                  refine r_iconst C (nI 0) dL_bound_186 (by decide) ?_
                  refine r_pcallS_i (nA := 4) C (Nat.le_of_ble_eq_true rfl) [.ref (ad 139), .int (nI 0), .ref (ad 139), .int (nI 0)] (c_L_prod_hh l D cs ad M  ) (tt_S ml_L_8 st_L_product in_L co_L_product) ⟨rfl, rfl⟩ ⟨rfl, by decide, by decide, by decide⟩ ⟨Nat.le_of_ble_eq_true rfl, Nat.le_of_ble_eq_true rfl⟩ rfl rfl (Nat.le_of_ble_eq_true rfl) dL_bound_187 ?_
                  refine r_topi (w := (dotz z 50 50)) (pL_hh tM) ?_
                  refine r_topi (w := nI (Hz z)) hB.2.2.2.1 ?_
                  refine r_i2l C dL_bound_190 ?_
                  refine r_topl (w := lN (Hz z)) (nI_l (by omega)) ?_
                  refine r_lmul C dL_bound_191 ?_
                  refine r_topl (w := lN ((wtz z w) * (Hz z))) (lN_mul _ _) ?_
                  refine r_aload C dL_bound_192 8 rfl ?_
                  refine r_iload C dL_bound_194 0 rfl ?_
                  refine r_aload C dL_bound_196 8 rfl ?_
                  refine r_iload C dL_bound_198 0 rfl ?_
                  refine r_pcallS_i (nA := 4) C (Nat.le_of_ble_eq_true rfl) [.ref (ad 138), .int (nI w), .ref (ad 138), .int (nI w)] (c_L_prod_ll l D cs ad M  w (by omega) w (by omega)) (tt_S ml_L_8 st_L_product in_L co_L_product) ⟨rfl, rfl⟩ ⟨rfl, by decide, by decide, by decide⟩ ⟨Nat.le_of_ble_eq_true rfl, Nat.le_of_ble_eq_true rfl⟩ rfl rfl (Nat.le_of_ble_eq_true rfl) dL_bound_200 ?_
                  refine r_topi (w := (dotz z (18 + 4 * w) (18 + 4 * w))) (pL_ll tM (by omega) (by omega)) ?_
                  refine r_topi (w := nI (Uz z w)) (hB.2.1 w (by omega)).1 ?_
                  refine r_i2l C dL_bound_203 ?_
                  refine r_topl (w := lN (Uz z w)) (nI_l (by omega)) ?_
                  refine r_lmul C dL_bound_204 ?_
                  refine r_topl (w := lN (((wtz z w) * (Hz z)) * (Uz z w))) (lN_mul _ _) ?_
                  refine r_lstore C [(14, .long (lN (((wtz z w) * (Hz z)) * (Uz z w)))), (13, .int (nI w)), (8, .long (lN ((dsS (wtz z) (Uz z) (Sz z) (Hz z) n k).1))), (10, .long (lN ((dsS (wtz z) (Uz z) (Sz z) (Hz z) n k).2.1))), (12, .int (tel (dsS (wtz z) (Uz z) (Sz z) (Hz z) n k).2.2)), (0, .ref (ad 117)), (1, .ref (ad 135)), (2, .ref (ad 136)), (3, .ref (ad 137)), (4, .ref (ad 138)), (5, .ref (ad 139))] dL_bound_205 (by decide) rfl ?_
                  refine r_aload C dL_bound_207 9 rfl ?_
                  refine r_iload C dL_bound_209 1 rfl ?_
                  refine r_aload C dL_bound_211 10 rfl ?_
                  refine r_iconst C (nI 0) dL_bound_213 (by decide) ?_
                  refine r_pcallS_i (nA := 4) C (Nat.le_of_ble_eq_true rfl) [.ref (ad 138), .int (nI w), .ref (ad 139), .int (nI 0)] (c_L_prod_lh l D cs ad M  w (by omega)) (tt_S ml_L_8 st_L_product in_L co_L_product) ⟨rfl, rfl⟩ ⟨rfl, by decide, by decide, by decide⟩ ⟨Nat.le_of_ble_eq_true rfl, Nat.le_of_ble_eq_true rfl⟩ rfl rfl (Nat.le_of_ble_eq_true rfl) dL_bound_214 ?_
                  refine r_topi (w := (dotz z 50 (18 + 4 * w))) (pL_lh tM (by omega)) ?_
                  refine r_i2l C dL_bound_217 ?_
                  refine r_aload C dL_bound_218 9 rfl ?_
                  refine r_iload C dL_bound_220 1 rfl ?_
                  refine r_aload C dL_bound_222 10 rfl ?_
                  refine r_iconst C (nI 0) dL_bound_224 (by decide) ?_
                  refine r_pcallS_i (nA := 4) C (Nat.le_of_ble_eq_true rfl) [.ref (ad 138), .int (nI w), .ref (ad 139), .int (nI 0)] (c_L_prod_lh l D cs ad M  w (by omega)) (tt_S ml_L_8 st_L_product in_L co_L_product) ⟨rfl, rfl⟩ ⟨rfl, by decide, by decide, by decide⟩ ⟨Nat.le_of_ble_eq_true rfl, Nat.le_of_ble_eq_true rfl⟩ rfl rfl (Nat.le_of_ble_eq_true rfl) dL_bound_225 ?_
                  refine r_topi (w := (dotz z 50 (18 + 4 * w))) (pL_lh tM (by omega)) ?_
                  refine r_i2l C dL_bound_228 ?_
                  refine r_lmul C dL_bound_229 ?_
                  refine r_topl (w := lN (Sz z w)) (hB.2.2.1 w (by omega)).1 ?_
                  refine r_lstore C [(16, .long (lN (Sz z w))), (14, .long (lN (((wtz z w) * (Hz z)) * (Uz z w)))), (13, .int (nI w)), (8, .long (lN ((dsS (wtz z) (Uz z) (Sz z) (Hz z) n k).1))), (10, .long (lN ((dsS (wtz z) (Uz z) (Sz z) (Hz z) n k).2.1))), (12, .int (tel (dsS (wtz z) (Uz z) (Sz z) (Hz z) n k).2.2)), (0, .ref (ad 117)), (1, .ref (ad 135)), (2, .ref (ad 136)), (3, .ref (ad 137)), (4, .ref (ad 138)), (5, .ref (ad 139))] dL_bound_230 (by decide) rfl ?_
                  have hb1 := mul_b (tb_le hB (show w < n by omega)) hd7.2.2 (by decide)
                  have hb2 := mul_b hd7.1 hS9 (by decide)
                  refine r_lload C dL_bound_232 1 rfl ?_
                  refine r_lload C dL_bound_234 4 rfl ?_
                  refine r_lmul C dL_bound_236 ?_
                  refine r_topl (w := lN ((((wtz z w) * (Hz z)) * (Uz z w)) * ((dsS (wtz z) (Uz z) (Sz z) (Hz z) n k).2.1))) (lN_mul _ _) ?_
                  refine r_lload C dL_bound_237 3 rfl ?_
                  refine r_lload C dL_bound_239 0 rfl ?_
                  refine r_lmul C dL_bound_241 ?_
                  refine r_topl (w := lN (((dsS (wtz z) (Uz z) (Sz z) (Hz z) n k).1) * (Sz z w))) (lN_mul _ _) ?_
                  refine r_lcmp C dL_bound_242 ?_
                  refine r_if_lt C 258 dL_bound_243 (by decide) (fun h243 => ?_) (fun h243 => ?_)
                  ·
                    rw [lgcN_lt (by omega) (by omega)] at h243
                    refine r_lv (lv2 := [(13, .int (nI w)), (8, .long (lN ((dsS (wtz z) (Uz z) (Sz z) (Hz z) n k).1))), (10, .long (lN ((dsS (wtz z) (Uz z) (Sz z) (Hz z) n k).2.1))), (12, .int (tel (dsS (wtz z) (Uz z) (Sz z) (Hz z) n k).2.2)), (0, .ref (ad 117)), (1, .ref (ad 135)), (2, .ref (ad 136)), (3, .ref (ad 137)), (4, .ref (ad 138)), (5, .ref (ad 139))]) [2, 3, 4, 5, 6, 7, 8, 9, 10, 11] rfl ?_
                    have hds : (dsS (wtz z) (Uz z) (Sz z) (Hz z) n (k + 1)) = (dsS (wtz z) (Uz z) (Sz z) (Hz z) n k) := ds_n hw9 (Or.inr (Nat.not_le.mpr h243))
                    refine r_lve (lv2 := [(13, .int (nI w)), (8, .long (lN ((dsS (wtz z) (Uz z) (Sz z) (Hz z) n (k + 1)).1))), (10, .long (lN ((dsS (wtz z) (Uz z) (Sz z) (Hz z) n (k + 1)).2.1))), (12, .int (tel (dsS (wtz z) (Uz z) (Sz z) (Hz z) n (k + 1)).2.2)), (0, .ref (ad 117)), (1, .ref (ad 135)), (2, .ref (ad 136)), (3, .ref (ad 137)), (4, .ref (ad 138)), (5, .ref (ad 139))]) (by rw [hds]) ?_
                    refine r_iinc C ((pvI (n - (k + 1)))) [(13, .int (pvI (n - (k + 1)))), (8, .long (lN ((dsS (wtz z) (Uz z) (Sz z) (Hz z) n (k + 1)).1))), (10, .long (lN ((dsS (wtz z) (Uz z) (Sz z) (Hz z) n (k + 1)).2.1))), (12, .int (tel (dsS (wtz z) (Uz z) (Sz z) (Hz z) n (k + 1)).2.2)), (0, .ref (ad 117)), (1, .ref (ad 135)), (2, .ref (ad 136)), (3, .ref (ad 137)), (4, .ref (ad 138)), (5, .ref (ad 139))] dL_bound_258 (j := 0) rfl ((pv_i w).trans (by rw [show n - (k + 1) = w by omega])) (by decide) rfl ?_
                    refine r_goto C 164 dL_bound_261 (by decide) ?_
                    refine r_lv (lv2 := [(13, .int (pvI (n - (k + 1)))), (8, .long (lN ((dsS (wtz z) (Uz z) (Sz z) (Hz z) n (k + 1)).1))), (10, .long (lN ((dsS (wtz z) (Uz z) (Sz z) (Hz z) n (k + 1)).2.1))), (12, .int (tel (dsS (wtz z) (Uz z) (Sz z) (Hz z) n (k + 1)).2.2)), (0, .ref (ad 117)), (1, .ref (ad 135)), (2, .ref (ad 136)), (3, .ref (ad 137)), (4, .ref (ad 138)), (5, .ref (ad 139))]) [0, 1, 2, 3, 4, 5, 6, 7, 8, 9] rfl ?_
                    exact ih (k + 1) (by omega) (by omega)
                  ·
                    rw [lgcN_lt (by omega) (by omega)] at h243
                    refine r_lload C dL_bound_246 1 rfl ?_
                    refine r_lstore C [(8, .long (lN (((wtz z w) * (Hz z)) * (Uz z w)))), (16, .long (lN (Sz z w))), (14, .long (lN (((wtz z w) * (Hz z)) * (Uz z w)))), (13, .int (nI w)), (10, .long (lN ((dsS (wtz z) (Uz z) (Sz z) (Hz z) n k).2.1))), (12, .int (tel (dsS (wtz z) (Uz z) (Sz z) (Hz z) n k).2.2)), (0, .ref (ad 117)), (1, .ref (ad 135)), (2, .ref (ad 136)), (3, .ref (ad 137)), (4, .ref (ad 138)), (5, .ref (ad 139))] dL_bound_248 (by decide) rfl ?_
                    refine r_lload C dL_bound_250 1 rfl ?_
                    refine r_lstore C [(10, .long (lN (Sz z w))), (8, .long (lN (((wtz z w) * (Hz z)) * (Uz z w)))), (16, .long (lN (Sz z w))), (14, .long (lN (((wtz z w) * (Hz z)) * (Uz z w)))), (13, .int (nI w)), (12, .int (tel (dsS (wtz z) (Uz z) (Sz z) (Hz z) n k).2.2)), (0, .ref (ad 117)), (1, .ref (ad 135)), (2, .ref (ad 136)), (3, .ref (ad 137)), (4, .ref (ad 138)), (5, .ref (ad 139))] dL_bound_252 (by decide) rfl ?_
                    refine r_iload C dL_bound_254 4 rfl ?_
                    refine r_istore C [(12, .int (nI w)), (10, .long (lN (Sz z w))), (8, .long (lN (((wtz z w) * (Hz z)) * (Uz z w)))), (16, .long (lN (Sz z w))), (14, .long (lN (((wtz z w) * (Hz z)) * (Uz z w)))), (13, .int (nI w)), (0, .ref (ad 117)), (1, .ref (ad 135)), (2, .ref (ad 136)), (3, .ref (ad 137)), (4, .ref (ad 138)), (5, .ref (ad 139))] dL_bound_256 (by decide) rfl ?_
                    refine r_lv (lv2 := [(12, .int (nI w)), (10, .long (lN (Sz z w))), (8, .long (lN (((wtz z w) * (Hz z)) * (Uz z w)))), (13, .int (nI w)), (0, .ref (ad 117)), (1, .ref (ad 135)), (2, .ref (ad 136)), (3, .ref (ad 137)), (4, .ref (ad 138)), (5, .ref (ad 139))]) [0, 1, 2, 5, 6, 7, 8, 9, 10, 11] rfl ?_
                    have hds : (dsS (wtz z) (Uz z) (Sz z) (Hz z) n (k + 1)) = (wtz z w * Hz z * Uz z w, Sz z w, w + 1) := ds_y hw9 (by omega) (Nat.not_lt.mp h243)
                    refine r_lve (lv2 := [(12, .int (tel (dsS (wtz z) (Uz z) (Sz z) (Hz z) n (k + 1)).2.2)), (10, .long (lN ((dsS (wtz z) (Uz z) (Sz z) (Hz z) n (k + 1)).2.1))), (8, .long (lN ((dsS (wtz z) (Uz z) (Sz z) (Hz z) n (k + 1)).1))), (13, .int (nI w)), (0, .ref (ad 117)), (1, .ref (ad 135)), (2, .ref (ad 136)), (3, .ref (ad 137)), (4, .ref (ad 138)), (5, .ref (ad 139))]) (by rw [hds]; rfl) ?_
                    refine r_iinc C ((pvI (n - (k + 1)))) [(13, .int (pvI (n - (k + 1)))), (12, .int (tel (dsS (wtz z) (Uz z) (Sz z) (Hz z) n (k + 1)).2.2)), (10, .long (lN ((dsS (wtz z) (Uz z) (Sz z) (Hz z) n (k + 1)).2.1))), (8, .long (lN ((dsS (wtz z) (Uz z) (Sz z) (Hz z) n (k + 1)).1))), (0, .ref (ad 117)), (1, .ref (ad 135)), (2, .ref (ad 136)), (3, .ref (ad 137)), (4, .ref (ad 138)), (5, .ref (ad 139))] dL_bound_258 (j := 3) rfl ((pv_i w).trans (by rw [show n - (k + 1) = w by omega])) (by decide) rfl ?_
                    refine r_goto C 164 dL_bound_261 (by decide) ?_
                    refine r_lv (lv2 := [(13, .int (pvI (n - (k + 1)))), (8, .long (lN ((dsS (wtz z) (Uz z) (Sz z) (Hz z) n (k + 1)).1))), (10, .long (lN ((dsS (wtz z) (Uz z) (Sz z) (Hz z) n (k + 1)).2.1))), (12, .int (tel (dsS (wtz z) (Uz z) (Sz z) (Hz z) n (k + 1)).2.2)), (0, .ref (ad 117)), (1, .ref (ad 135)), (2, .ref (ad 136)), (3, .ref (ad 137)), (4, .ref (ad 138)), (5, .ref (ad 139))]) [0, 3, 2, 1, 4, 5, 6, 7, 8, 9] rfl ?_
                    exact ih (k + 1) (by omega) (by omega)
          refine r_lv (lv2 := [(13, .int (pvI (n - 0))), (8, .long (lN ((dsS (wtz z) (Uz z) (Sz z) (Hz z) n 0).1))), (10, .long (lN ((dsS (wtz z) (Uz z) (Sz z) (Hz z) n 0).2.1))), (12, .int (tel (dsS (wtz z) (Uz z) (Sz z) (Hz z) n 0).2.2)), (0, .ref (ad 117)), (1, .ref (ad 135)), (2, .ref (ad 136)), (3, .ref (ad 137)), (4, .ref (ad 138)), (5, .ref (ad 139))]) [0, 3, 2, 1, 6, 7, 8, 9, 10, 11] rfl ?_
          exact Lp (n + 1) 0 (by omega) (by omega)
        · exact absurd (by decide) h99
      · exact absurd (by decide) h22
    ·
      have hrs := rs_2 (by omega) hmf hup
      refine r_topi (w := nI v) hup ?_
      refine r_istore C [(7, .int (nI v)), (6, .int (-1)), (0, .ref (ad 117)), (1, .ref (ad 135)), (2, .ref (ad 136)), (3, .ref (ad 137)), (4, .ref (ad 138)), (5, .ref (ad 139))] dL_bound_18 (by decide) rfl ?_
      refine r_iload C dL_bound_20 1 rfl ?_
      refine r_if_lt C 97 dL_bound_22 (by decide) (fun h22 => ?_) (fun h22 => ?_)
      ·
        refine r_iload C dL_bound_97 0 rfl ?_
        refine r_if_lt C 148 dL_bound_99 (by decide) (fun h99 => ?_) (fun h99 => ?_)
        · exact absurd h99 (nI_pos (by omega))
        ·
          refine r_aload_n C dL_bound_102 rfl 2 rfl ?_
          refine r_iconst C (nI 0) dL_bound_103 (by decide) ?_
          refine r_npcallV_i (nA := 1) C hN (Nat.le_of_ble_eq_true rfl) [.int (nI 0)] (c_X7_whyNot l D cs ad M  z n d sM.2.2.2.1 hn8 hm mk hk 0 (by decide)) (tt_V ml_L_22 im_X7_whyNot se_X7_whyNot in_X7 co_X7_whyNot) ⟨rfl, rfl⟩ ⟨rfl, by decide, by decide, by decide⟩ ⟨Nat.le_of_ble_eq_true rfl, Nat.le_of_ble_eq_true rfl⟩ (by decide) rfl rfl rfl rfl rfl (Nat.le_of_ble_eq_true rfl) dL_bound_104 ?_
          refine r_topi (w := nI 2) ((rn_c1 (p := 0) hmf).trans (if_neg (show ¬ upR z n = -1 from by rw [hup]; exact m1_ne (by omega)))) ?_
          refine r_iconst C (nI 2) dL_bound_107 (by decide) ?_
          refine r_icmpN_ne C 146 dL_bound_108 (by decide) (by omega) (by omega) (fun h108 => ?_) (fun h108 => ?_)
          · exact absurd h108 (by decide)
          ·
            refine r_aload_n C dL_bound_111 rfl 2 rfl ?_
            refine r_iconst C (nI 1) dL_bound_112 (by decide) ?_
            refine r_npcallV_i (nA := 1) C hN (Nat.le_of_ble_eq_true rfl) [.int (nI 1)] (c_X7_whyNot l D cs ad M  z n d sM.2.2.2.1 hn8 hm mk hk 1 (by decide)) (tt_V ml_L_22 im_X7_whyNot se_X7_whyNot in_X7 co_X7_whyNot) ⟨rfl, rfl⟩ ⟨rfl, by decide, by decide, by decide⟩ ⟨Nat.le_of_ble_eq_true rfl, Nat.le_of_ble_eq_true rfl⟩ (by decide) rfl rfl rfl rfl rfl (Nat.le_of_ble_eq_true rfl) dL_bound_113 ?_
            refine r_topi (w := nI v) ((rn_c1 (p := 1) hmf).trans hup) ?_
            refine r_iload C dL_bound_116 0 rfl ?_
            refine r_icmpN_ne C 146 dL_bound_118 (by decide) (by omega) (by omega) (fun h118 => ?_) (fun h118 => ?_)
            · exact absurd rfl h118
            ·
              refine r_aload_n C dL_bound_121 rfl 2 rfl ?_
              refine r_iconst C (nI 2) dL_bound_122 (by decide) ?_
              refine r_npcallV_i (nA := 1) C hN (Nat.le_of_ble_eq_true rfl) [.int (nI 2)] (c_X7_whyNot l D cs ad M  z n d sM.2.2.2.1 hn8 hm mk hk 2 (by decide)) (tt_V ml_L_22 im_X7_whyNot se_X7_whyNot in_X7 co_X7_whyNot) ⟨rfl, rfl⟩ ⟨rfl, by decide, by decide, by decide⟩ ⟨Nat.le_of_ble_eq_true rfl, Nat.le_of_ble_eq_true rfl⟩ (by decide) rfl rfl rfl rfl rfl (Nat.le_of_ble_eq_true rfl) dL_bound_123 ?_
              refine r_topi (w := (-1)) ((rn_c1 (p := 2) hmf).trans rfl) ?_
              refine r_iconst C ((-1)) dL_bound_126 (by decide) ?_
              refine r_icmp_ne C 146 dL_bound_127 (by decide) (fun h127 => ?_) (fun h127 => ?_)
              · exact absurd rfl h127
              ·
                refine r_aload_n C dL_bound_130 rfl 2 rfl ?_
                refine r_iconst C (nI 1) dL_bound_131 (by decide) ?_
                refine r_ncallV_l (nA := 1) C hN (Nat.le_of_ble_eq_true rfl) [.int (nI 1)] (c_X7_bound l D cs ad M  z n d sM.2.2.2.1 hn8 hm mk hk (wtz z) (Uz z) (Sz z) (Hz z) hBr hpo 1 (by decide)) (tt_V ml_L_28 im_X7_bound se_X7_bound in_X7 co_X7_bound) ⟨rfl, rfl⟩ ⟨rfl, by decide, by decide, by decide⟩ ⟨Nat.le_of_ble_eq_true rfl, Nat.le_of_ble_eq_true rfl⟩ (by decide) rfl rfl rfl rfl rfl (Nat.le_of_ble_eq_true rfl) dL_bound_132 (fun ru6 Mu6 qu6 => ?_)
                have sMu6 := lkC sM qu6.2
                have tMu6 := lkL tM qu6.2
                have kMu6 := kM.tr qu6.2
                refine r_topl (w := (-1)) (qu6.1.trans (if_neg hrs)) ?_
                refine r_ldc2 C (-1) k_L_32 dL_bound_135 ?_
                refine r_lcmp C dL_bound_138 ?_
                refine r_if_ne C 146 dL_bound_139 (by decide) (fun h139 => ?_) (fun h139 => ?_)
                · exact absurd (lgcT _) h139
                ·
                  rw [lgc_ne] at h139
                  refine r_iconst C (nI 1) dL_bound_142 (by decide) ?_
                  refine r_goto C 147 dL_bound_143 (by decide) ?_
                  exact E 0 _ _ _ _ (Nat.le_of_ble_eq_true rfl) dL_bound_147 rfl (⟨rfl, kMu6⟩)
      · exact absurd (by decide) h22
  ·
    have hrs := rs_1 (by omega) (by omega) hmf
    refine r_istore C [(7, .int (upR z n)), (6, .int (nI (4 * a + b))), (0, .ref (ad 117)), (1, .ref (ad 135)), (2, .ref (ad 136)), (3, .ref (ad 137)), (4, .ref (ad 138)), (5, .ref (ad 139))] dL_bound_18 (by decide) rfl ?_
    refine r_iload C dL_bound_20 1 rfl ?_
    refine r_if_lt C 97 dL_bound_22 (by decide) (fun h22 => ?_) (fun h22 => ?_)
    · exact absurd h22 (nI_pos (by omega))
    ·
      refine r_aload_n C dL_bound_25 rfl 2 rfl ?_
      refine r_iconst C (nI 0) dL_bound_26 (by decide) ?_
      refine r_npcallV_i (nA := 1) C hN (Nat.le_of_ble_eq_true rfl) [.int (nI 0)] (c_X7_whyNot l D cs ad M  z n d sM.2.2.2.1 hn8 hm mk hk 0 (by decide)) (tt_V ml_L_22 im_X7_whyNot se_X7_whyNot in_X7 co_X7_whyNot) ⟨rfl, rfl⟩ ⟨rfl, by decide, by decide, by decide⟩ ⟨Nat.le_of_ble_eq_true rfl, Nat.le_of_ble_eq_true rfl⟩ (by decide) rfl rfl rfl rfl rfl (Nat.le_of_ble_eq_true rfl) dL_bound_27 ?_
      refine r_topi (w := nI 1) ((rn_c2 (p := 0) (by omega) (by omega) hmf).trans rfl) ?_
      refine r_iconst C (nI 1) dL_bound_30 (by decide) ?_
      refine r_icmpN_ne C 95 dL_bound_31 (by decide) (by omega) (by omega) (fun h31 => ?_) (fun h31 => ?_)
      · exact absurd h31 (by decide)
      ·
        refine r_aload_n C dL_bound_34 rfl 2 rfl ?_
        refine r_iconst C (nI 1) dL_bound_35 (by decide) ?_
        refine r_npcallV_i (nA := 1) C hN (Nat.le_of_ble_eq_true rfl) [.int (nI 1)] (c_X7_whyNot l D cs ad M  z n d sM.2.2.2.1 hn8 hm mk hk 1 (by decide)) (tt_V ml_L_22 im_X7_whyNot se_X7_whyNot in_X7 co_X7_whyNot) ⟨rfl, rfl⟩ ⟨rfl, by decide, by decide, by decide⟩ ⟨Nat.le_of_ble_eq_true rfl, Nat.le_of_ble_eq_true rfl⟩ (by decide) rfl rfl rfl rfl rfl (Nat.le_of_ble_eq_true rfl) dL_bound_36 ?_
        refine r_topi (w := nI a) ((rn_c2 (p := 1) (by omega) (by omega) hmf).trans rfl) ?_
        refine r_iload C dL_bound_39 1 rfl ?_
        refine r_iconst C (nI 4) dL_bound_41 (by decide) ?_
        refine r_idiv C dL_bound_42 (by decide) ?_
        refine r_topi (pk_div (a := 4 * a + b) (d := 4) (by omega) (by omega) (by omega)) ?_
        refine r_icmpN_ne C 95 dL_bound_43 (by decide) (by omega) (by omega) (fun h43 => ?_) (fun h43 => ?_)
        · exact absurd (by omega) h43
        ·
          refine r_aload_n C dL_bound_46 rfl 2 rfl ?_
          refine r_iconst C (nI 2) dL_bound_47 (by decide) ?_
          refine r_npcallV_i (nA := 1) C hN (Nat.le_of_ble_eq_true rfl) [.int (nI 2)] (c_X7_whyNot l D cs ad M  z n d sM.2.2.2.1 hn8 hm mk hk 2 (by decide)) (tt_V ml_L_22 im_X7_whyNot se_X7_whyNot in_X7 co_X7_whyNot) ⟨rfl, rfl⟩ ⟨rfl, by decide, by decide, by decide⟩ ⟨Nat.le_of_ble_eq_true rfl, Nat.le_of_ble_eq_true rfl⟩ (by decide) rfl rfl rfl rfl rfl (Nat.le_of_ble_eq_true rfl) dL_bound_48 ?_
          refine r_topi (w := nI b) ((rn_c2 (p := 2) (by omega) (by omega) hmf).trans rfl) ?_
          refine r_iload C dL_bound_51 1 rfl ?_
          refine r_iconst C (nI 4) dL_bound_53 (by decide) ?_
          refine r_irem C dL_bound_54 (by decide) ?_
          refine r_topi (pk_rem (a := 4 * a + b) (d := 4) (by omega) (by omega) (by omega)) ?_
          refine r_icmpN_ne C 95 dL_bound_55 (by decide) (by omega) (by omega) (fun h55 => ?_) (fun h55 => ?_)
          · exact absurd (by omega) h55
          ·
            refine r_aload_n C dL_bound_58 rfl 2 rfl ?_
            refine r_iconst C (nI 0) dL_bound_59 (by decide) ?_
            refine r_ncallV_l (nA := 1) C hN (Nat.le_of_ble_eq_true rfl) [.int (nI 0)] (c_X7_bound l D cs ad M  z n d sM.2.2.2.1 hn8 hm mk hk (wtz z) (Uz z) (Sz z) (Hz z) hBr hpo 0 (by decide)) (tt_V ml_L_28 im_X7_bound se_X7_bound in_X7 co_X7_bound) ⟨rfl, rfl⟩ ⟨rfl, by decide, by decide, by decide⟩ ⟨Nat.le_of_ble_eq_true rfl, Nat.le_of_ble_eq_true rfl⟩ (by decide) rfl rfl rfl rfl rfl (Nat.le_of_ble_eq_true rfl) dL_bound_60 (fun ru7 Mu7 qu7 => ?_)
            have sMu7 := lkC sM qu7.2
            have tMu7 := lkL tM qu7.2
            have kMu7 := kM.tr qu7.2
            refine r_topl (w := (-1)) (qu7.1.trans (if_neg hrs)) ?_
            refine r_ldc2 C (-1) k_L_32 dL_bound_63 ?_
            refine r_lcmp C dL_bound_66 ?_
            refine r_if_ne C 95 dL_bound_67 (by decide) (fun h67 => ?_) (fun h67 => ?_)
            · exact absurd (lgcT _) h67
            ·
              rw [lgc_ne] at h67
              refine r_aload_n C dL_bound_70 rfl 2 rfl ?_
              refine r_iconst C (nI 2) dL_bound_71 (by decide) ?_
              refine r_ncallV_l (nA := 1) C hN (Nat.le_of_ble_eq_true rfl) [.int (nI 2)] (c_X7_bound l D cs ad Mu7  z n d sMu7.2.2.2.1 hn8 hm mk hk (wtz z) (Uz z) (Sz z) (Hz z) hBr hpo 2 (by decide)) (tt_V ml_L_28 im_X7_bound se_X7_bound in_X7 co_X7_bound) ⟨rfl, rfl⟩ ⟨rfl, by decide, by decide, by decide⟩ ⟨Nat.le_of_ble_eq_true rfl, Nat.le_of_ble_eq_true rfl⟩ (by decide) rfl rfl rfl rfl rfl (Nat.le_of_ble_eq_true rfl) dL_bound_72 (fun ru8 Mu8 qu8 => ?_)
              have sMu8 := lkC sMu7 qu8.2
              have tMu8 := lkL tMu7 qu8.2
              have kMu8 := kMu7.tr qu8.2
              refine r_topl (w := (-1)) (qu8.1.trans (if_neg hrs)) ?_
              refine r_ldc2 C (-1) k_L_32 dL_bound_75 ?_
              refine r_lcmp C dL_bound_78 ?_
              refine r_if_ne C 95 dL_bound_79 (by decide) (fun h79 => ?_) (fun h79 => ?_)
              · exact absurd (lgcT _) h79
              ·
                rw [lgc_ne] at h79
                refine r_aload_n C dL_bound_82 rfl 2 rfl ?_
                refine r_ncallV_d (nA := 0) C hN (Nat.le_of_ble_eq_true rfl) [] (c_X7_nearness l D cs ad Mu8  z n d sMu8.2.2.2.1 hn8 hm mk (wtz z) hk hw hsy hn1 (wtz z) (Uz z) (Sz z) (Hz z) hBr hpo (fun q => absurd q hrs) (bnA_b hw hl9 hh9)) (tt_V ml_L_34 im_X7_nearness se_X7_nearness in_X7 co_X7_nearness) ⟨rfl, rfl⟩ ⟨rfl, by decide, by decide, by decide⟩ ⟨Nat.le_of_ble_eq_true rfl, Nat.le_of_ble_eq_true rfl⟩ (by decide) rfl rfl rfl rfl rfl (Nat.le_of_ble_eq_true rfl) dL_bound_83 (fun ru9 Mu9 qu9 => ?_)
                have sMu9 := lkC sMu8 qu9.2
                have tMu9 := lkL tMu8 qu9.2
                have kMu9 := kMu8.tr qu9.2
                refine r_top (congrArg Value.double (qu9.1.trans (if_neg hrs))) ?_
                refine r_dconst0 C dL_bound_86 ?_
                refine r_dcmp C dL_bound_87 ?_
                refine r_if_ne C 95 dL_bound_88 (by decide) (fun h88 => ?_) (fun h88 => ?_)
                · exact absurd (by decide +kernel) h88
                ·
                  refine r_iconst C (nI 1) dL_bound_91 (by decide) ?_
                  refine r_goto C 96 dL_bound_92 (by decide) ?_
                  exact E 0 _ _ _ _ (Nat.le_of_ble_eq_true rfl) dL_bound_96 rfl (⟨rfl, kMu9⟩)
