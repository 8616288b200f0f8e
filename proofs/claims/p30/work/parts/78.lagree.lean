/-! ===== the law's method agree (written by wip/p30/gen/lm5.py) ===== -/
theorem lkW.pt {M M1 M2 : Mm} (h : lkP M M1) (h2 : lkW M1 M2) : lkW M M2 := fun i h3 h4 => ⟨(h2 i h3 h4).1.trans (h i h3).1, (h2 i h3 h4).2.trans (h i h3).2⟩
theorem an_1 (y : Int32) : y &&& nI 1 = bI (decide (y &&& nI 1 = nI 1)) := by
  obtain ⟨j, hj, e⟩ := pk_andE y (m := nI 1) 1 (by decide)
  rw [e]
  have hj : j < 2 := hj
  rcases (show j = 0 ∨ j = 1 by omega) with rfl | rfl <;> decide
/-- how many edges a vertex has -/
theorem on_e {z : Nat → Int32} {n a : Nat} {e : Nat → Nat → Bool} {mk : Nat → Nat} (hn : n ≤ 8) (he : eb z n e) (hk : gk z n mk) (ha : a < n) : on8 (z (10 + a)) = sI (fun j => bI (e a j)) n := by
  have h1 : on8 (z (10 + a)) = sI (fun k => bI (decide (k < n) && e a k)) (n + (8 - n)) := by
    rw [show n + (8 - n) = 8 by omega]
    refine sI_cg (fun k hk8 => ?_)
    rw [an_1]
    show bI (bt (z (10 + a)) k) = _
    by_cases q : k < n
    · rw [eb_bt hn he ha q, decide_eq_true q, Bool.true_and]
    · rw [decide_eq_false q, Bool.false_and, (hk a ha).2, bt_tb (n2_256 hn (hk a ha).1) hk8, Nat.testBit_lt_two_pow (Nat.lt_of_lt_of_le (hk a ha).1 (Nat.pow_le_pow_right (by decide) (Nat.not_lt.mp q)))]
  rw [h1, sI_z (fun j hj => by rw [decide_eq_false (by omega), Bool.false_and]; rfl)]
  exact sI_cg (fun k hk => by rw [decide_eq_true hk, Bool.true_and])
theorem mf_sum {z : Nat → Int32} {n : Nat} {mk : Nat → Nat} (hn : n ≤ 8) (hk : gk z n mk) : sI (fun k => bI (mfp z k)) (8 * n) = sI (fun i => sI (fun j => bI (mfp z (8 * i + j))) n) n := by
  rw [← ufc_z hn hk]
  exact sI_cg (fun a ha => sI_cg (fun b hb => by rw [mfp_uf (by omega)]))
theorem vn_k {z : Nat → Int32} {n v k : Nat} : vnz z n v (10 + k) = z (18 + 4 * v + k) := by
  unfold vnz
  rw [if_neg (by omega), if_neg (by omega), if_neg (by omega), if_neg (by omega), if_neg (by omega), if_neg (by omega)]
  exact congrArg z (by omega)
theorem bad_y {x y : Int32} {c : Bool} (h : c = true) : x + y + 1 = x + (y + bI c) := by rw [h, Int32.add_assoc]; rfl
theorem bad_n {x y : Int32} {c : Bool} (h : c = false) : x + y = x + (y + bI c) := by rw [h, show y + bI false = y from Int32.add_zero y]
theorem mf_le {z : Nat → Int32} {a b : Nat} (hb : b < 8) (h : b ≤ a) : mfp z (8 * a + b) = false := by rw [mfp_uf hb, decide_eq_true h]; rfl
set_option maxRecDepth 100000 in
set_option maxHeartbeats 4000000 in
theorem c_L_agree (l : Launch) (D : va_G) (cs : Nat → ClassId) (ad : Nat → Nat) (M : Mm) (z : Nat → Int32) (n d s : Nat) (e : Nat → Nat → Bool) (sM : CS M z n d e s) (tM : LR M z n d e) (hz2 : M.1 135 2 = nI s) (h0 : ad 1000 = 0) : ∀ sz : Nat, Met l yL_agree (.code yL_agree cL_agree 11 (some .boolean) :: TT) { frames := 44, cells := 1, slots := 6, locals := 1100 } (va_Pc [.ref (ad 117), .ref (ad 135), .ref (ad 136), .ref (ad 137), .ref (ad 138), .ref (ad 139)] (fun U9 => U9.heap.size = sz ∧ wB D cs ad (fA ad sz) M U9 ∧ xX (fA ad sz) U9 U9.heap)) (va_Qi (fun r M2 => r = bI true ∧ lkW M M2) (wB D cs ad (fA ad sz)) (fA ad sz)) 1 6 (fA ad sz) := by
  have hq := sM.1
  have hzz := gq_gz hq
  have hzz2 := hzz
  obtain ⟨-, -, hn, hd9, ⟨mk, hk⟩, hsy, hw, hl9, hh9, hl0, hh0⟩ := hzz2
  have hn4 := sM.2.1
  have hn8 : n ≤ 8 := hn.2
  have hn1 : 1 ≤ n := hn.1
  have hm := gk_gm hn8 hk
  have he := hq.2.2.2.2.1
  obtain ⟨hBr, hpo⟩ := gz_B hzz
  have kM := lk_0 M
  have hs6 := sM.2.2.2.2.2.2.1
  refine su_Z (by decide) (Nat.le_of_ble_eq_true rfl) (fun κ C hN E => ?_)
  refine r_lv (lv2 := [(0, .ref (ad 117)), (1, .ref (ad 135)), (2, .ref (ad 136)), (3, .ref (ad 137)), (4, .ref (ad 138)), (5, .ref (ad 139))]) [0, 1, 2, 3, 4, 5] rfl ?_
  refine r_iconst C (nI 0) dL_agree_0 (by decide) ?_
  refine r_istore C [(6, .int (nI 0)), (0, .ref (ad 117)), (1, .ref (ad 135)), (2, .ref (ad 136)), (3, .ref (ad 137)), (4, .ref (ad 138)), (5, .ref (ad 139))] dL_agree_1 (by decide) rfl ?_
  refine r_iconst C (nI 0) dL_agree_3 (by decide) ?_
  refine r_istore C [(7, .int (nI 0)), (6, .int (nI 0)), (0, .ref (ad 117)), (1, .ref (ad 135)), (2, .ref (ad 136)), (3, .ref (ad 137)), (4, .ref (ad 138)), (5, .ref (ad 139))] dL_agree_4 (by decide) rfl ?_
  have Lp : ∀ (f_a a : Nat) (M3 : Mm), n + 1 ≤ a + f_a → a ≤ n → lkP M M3 → VV l D cs ad 11 κ 0 M3 6 [(7, .int (nI a)), (6, .int (sI (fun i => sI (fun j => bI (mfp z (8 * i + j))) n) a)), (0, .ref (ad 117)), (1, .ref (ad 135)), (2, .ref (ad 136)), (3, .ref (ad 137)), (4, .ref (ad 138)), (5, .ref (ad 139))] [] := by
    intro f_a
    induction f_a with
    | zero => intro a M3 hk1_a hk2_a hI_a; exact absurd hk1_a (by omega)
    | succ f_a ih_a =>
      intro a M3 hk1_a hk2_a hI_a
      have sM3 := lkC sM hI_a
      have tM3 := lkL tM hI_a
      have kM3 := hI_a
      refine r_iload C dL_agree_6 0 rfl ?_
      refine r_aload_n C dL_agree_8 rfl 3 rfl ?_
      refine r_iconst C (nI 0) dL_agree_9 (by decide) ?_
      refine r_iald C (id := 135) (n := 3) (a := 0) (by decide) rfl (by decide) (by decide) dL_agree_10 ?_
      refine r_topi (w := nI n) (tM3).1 ?_
      refine r_icmpN_ge C 224 dL_agree_11 (by decide) (by omega) (by omega) (fun h11 => ?_) (fun h11 => ?_)
      ·
        have hk9 : n = a := by omega
        subst hk9
        refine r_iconst C (nI 0) dL_agree_224 (by decide) ?_
        refine r_istore C [(7, .int (nI 0)), (6, .int (sI (fun i => sI (fun j => bI (mfp z (8 * i + j))) n) n)), (0, .ref (ad 117)), (1, .ref (ad 135)), (2, .ref (ad 136)), (3, .ref (ad 137)), (4, .ref (ad 138)), (5, .ref (ad 139))] dL_agree_225 (by decide) rfl ?_
        have Ls : ∀ (f_p p : Nat), d + 1 ≤ p + f_p → p ≤ d → VV l D cs ad 11 κ 0 M3 227 [(7, .int (nI p)), (6, .int (sI (fun i => sI (fun j => bI (mfp z (8 * i + j))) n) n)), (0, .ref (ad 117)), (1, .ref (ad 135)), (2, .ref (ad 136)), (3, .ref (ad 137)), (4, .ref (ad 138)), (5, .ref (ad 139))] [] := by
          intro f_p
          induction f_p with
          | zero => intro p hk1_p hk2_p; exact absurd hk1_p (by omega)
          | succ f_p ih_p =>
            intro p hk1_p hk2_p
            refine r_iload C dL_agree_227 0 rfl ?_
            refine r_aload_n C dL_agree_229 rfl 3 rfl ?_
            refine r_iconst C (nI 1) dL_agree_230 (by decide) ?_
            refine r_iald C (id := 135) (n := 3) (a := 1) (by decide) rfl (by decide) (by decide) dL_agree_231 ?_
            refine r_topi (w := nI d) (tM3).2.1 ?_
            refine r_icmpN_ge C 257 dL_agree_232 (by decide) (by omega) (by omega) (fun h232 => ?_) (fun h232 => ?_)
            ·
              have hk9 : d = p := by omega
              subst hk9
              refine r_aload_n C dL_agree_257 rfl 2 rfl ?_
              refine r_iconst C (nI 0) dL_agree_258 (by decide) ?_
              refine r_ncallV_i (nA := 1) C hN (Nat.le_of_ble_eq_true rfl) [.int (nI 0)] (c_X7_count l D cs ad M3  z n d sM3.2.2.2.1 hn8 hm mk (wtz z) hk hw hsy hn1 sM3.2.2.2.2.1 (fun k q => Or.inl (sM3.2.2.2.2.2.1 k q)) 0 (by decide)) (tt_V ml_L_42 im_X7_count se_X7_count in_X7 co_X7_count) ⟨rfl, rfl⟩ ⟨rfl, by decide, by decide, by decide⟩ ⟨Nat.le_of_ble_eq_true rfl, Nat.le_of_ble_eq_true rfl⟩ (by decide) rfl rfl rfl rfl rfl (Nat.le_of_ble_eq_true rfl) dL_agree_259 (fun ru1 Mu1 qu1 => ?_)
              have sMu1 := lkC sM3 qu1.2
              have tMu1 := lkL tM3 qu1.2
              have kMu1 := kM3.tr qu1.2
              refine r_topi (w := nI n) (qu1.1.trans (rfl)) ?_
              refine r_aload_n C dL_agree_262 rfl 3 rfl ?_
              refine r_iconst C (nI 0) dL_agree_263 (by decide) ?_
              refine r_iald C (id := 135) (n := 3) (a := 0) (by decide) rfl (by decide) (by decide) dL_agree_264 ?_
              refine r_topi (w := nI n) (tMu1).1 ?_
              refine r_icmpN_ne C 357 dL_agree_265 (by decide) (by omega) (by omega) (fun h265 => ?_) (fun h265 => ?_)
              · exact absurd rfl h265
              ·
                refine r_aload_n C dL_agree_268 rfl 2 rfl ?_
                refine r_iconst C (nI 1) dL_agree_269 (by decide) ?_
                refine r_ncallV_i (nA := 1) C hN (Nat.le_of_ble_eq_true rfl) [.int (nI 1)] (c_X7_count l D cs ad Mu1  z n d sMu1.2.2.2.1 hn8 hm mk (wtz z) hk hw hsy hn1 sMu1.2.2.2.2.1 (fun k q => Or.inl (sMu1.2.2.2.2.2.1 k q)) 1 (by decide)) (tt_V ml_L_42 im_X7_count se_X7_count in_X7 co_X7_count) ⟨rfl, rfl⟩ ⟨rfl, by decide, by decide, by decide⟩ ⟨Nat.le_of_ble_eq_true rfl, Nat.le_of_ble_eq_true rfl⟩ (by decide) rfl rfl rfl rfl rfl (Nat.le_of_ble_eq_true rfl) dL_agree_270 (fun ru2 Mu2 qu2 => ?_)
                have sMu2 := lkC sMu1 qu2.2
                have tMu2 := lkL tMu1 qu2.2
                have kMu2 := kMu1.tr qu2.2
                refine r_topi (w := nI d) (qu2.1.trans (rfl)) ?_
                refine r_aload_n C dL_agree_273 rfl 3 rfl ?_
                refine r_iconst C (nI 1) dL_agree_274 (by decide) ?_
                refine r_iald C (id := 135) (n := 3) (a := 1) (by decide) rfl (by decide) (by decide) dL_agree_275 ?_
                refine r_topi (w := nI d) (tMu2).2.1 ?_
                refine r_icmpN_ne C 357 dL_agree_276 (by decide) (by omega) (by omega) (fun h276 => ?_) (fun h276 => ?_)
                · exact absurd rfl h276
                ·
                  refine r_aload_n C dL_agree_279 rfl 2 rfl ?_
                  refine r_bipush C (nI 7) dL_agree_280 (by decide) ?_
                  refine r_ncallV_i (nA := 1) C hN (Nat.le_of_ble_eq_true rfl) [.int (nI 7)] (c_X7_count l D cs ad Mu2  z n d sMu2.2.2.2.1 hn8 hm mk (wtz z) hk hw hsy hn1 sMu2.2.2.2.2.1 (fun k q => Or.inl (sMu2.2.2.2.2.2.1 k q)) 7 (by decide)) (tt_V ml_L_42 im_X7_count se_X7_count in_X7 co_X7_count) ⟨rfl, rfl⟩ ⟨rfl, by decide, by decide, by decide⟩ ⟨Nat.le_of_ble_eq_true rfl, Nat.le_of_ble_eq_true rfl⟩ (by decide) rfl rfl rfl rfl rfl (Nat.le_of_ble_eq_true rfl) dL_agree_282 (fun ru3 Mu3 qu3 => ?_)
                  have sMu3 := lkC sMu2 qu3.2
                  have tMu3 := lkL tMu2 qu3.2
                  have kMu3 := kMu2.tr qu3.2
                  refine r_topi (w := (sI (fun i => sI (fun j => bI (mfp z (8 * i + j))) n) n)) (qu3.1.trans (mf_sum hn8 hk)) ?_
                  refine r_iload C dL_agree_285 1 rfl ?_
                  refine r_icmp_ne C 357 dL_agree_287 (by decide) (fun h287 => ?_) (fun h287 => ?_)
                  · exact absurd rfl h287
                  ·
                    refine r_aload_n C dL_agree_290 rfl 2 rfl ?_
                    refine r_bipush C (nI 8) dL_agree_291 (by decide) ?_
                    refine r_ncallV_i (nA := 1) C hN (Nat.le_of_ble_eq_true rfl) [.int (nI 8)] (c_X7_count l D cs ad Mu3  z n d sMu3.2.2.2.1 hn8 hm mk (wtz z) hk hw hsy hn1 sMu3.2.2.2.2.1 (fun k q => Or.inl (sMu3.2.2.2.2.2.1 k q)) 8 (by decide)) (tt_V ml_L_42 im_X7_count se_X7_count in_X7 co_X7_count) ⟨rfl, rfl⟩ ⟨rfl, by decide, by decide, by decide⟩ ⟨Nat.le_of_ble_eq_true rfl, Nat.le_of_ble_eq_true rfl⟩ (by decide) rfl rfl rfl rfl rfl (Nat.le_of_ble_eq_true rfl) dL_agree_293 (fun ru4 Mu4 qu4 => ?_)
                    have sMu4 := lkC sMu3 qu4.2
                    have tMu4 := lkL tMu3 qu4.2
                    have kMu4 := kMu3.tr qu4.2
                    refine r_topi (w := (dotz z 50 50)) (qu4.1.trans (rfl)) ?_
                    refine r_aload C dL_agree_296 7 rfl ?_
                    refine r_iconst C (nI 0) dL_agree_298 (by decide) ?_
                    refine r_aload C dL_agree_299 7 rfl ?_
                    refine r_iconst C (nI 0) dL_agree_301 (by decide) ?_
                    refine r_pcallS_i (nA := 4) C (Nat.le_of_ble_eq_true rfl) [.ref (ad 139), .int (nI 0), .ref (ad 139), .int (nI 0)] (c_L_prod_hh l D cs ad Mu4  ) (tt_S ml_L_8 st_L_product in_L co_L_product) ⟨rfl, rfl⟩ ⟨rfl, by decide, by decide, by decide⟩ ⟨Nat.le_of_ble_eq_true rfl, Nat.le_of_ble_eq_true rfl⟩ rfl rfl (Nat.le_of_ble_eq_true rfl) dL_agree_302 ?_
                    refine r_topi (w := (dotz z 50 50)) (pL_hh tMu4) ?_
                    refine r_icmp_ne C 357 dL_agree_305 (by decide) (fun h305 => ?_) (fun h305 => ?_)
                    · exact absurd rfl h305
                    ·
                      refine r_aload_n C dL_agree_308 rfl 2 rfl ?_
                      refine r_bipush C (nI 11) dL_agree_309 (by decide) ?_
                      refine r_ncallV_i (nA := 1) C hN (Nat.le_of_ble_eq_true rfl) [.int (nI 11)] (c_X7_count l D cs ad Mu4  z n d sMu4.2.2.2.1 hn8 hm mk (wtz z) hk hw hsy hn1 sMu4.2.2.2.2.1 (fun k q => Or.inl (sMu4.2.2.2.2.2.1 k q)) 11 (by decide)) (tt_V ml_L_42 im_X7_count se_X7_count in_X7 co_X7_count) ⟨rfl, rfl⟩ ⟨rfl, by decide, by decide, by decide⟩ ⟨Nat.le_of_ble_eq_true rfl, Nat.le_of_ble_eq_true rfl⟩ (by decide) rfl rfl rfl rfl rfl (Nat.le_of_ble_eq_true rfl) dL_agree_311 (fun ru5 Mu5 qu5 => ?_)
                      have sMu5 := lkC sMu4 qu5.2
                      have tMu5 := lkL tMu4 qu5.2
                      have kMu5 := kMu4.tr qu5.2
                      refine r_topi (w := nI s) (qu5.1.trans (sMu4.2.2.2.2.2.2.2.1)) ?_
                      refine r_aload_n C dL_agree_314 rfl 3 rfl ?_
                      refine r_iconst C (nI 2) dL_agree_315 (by decide) ?_
                      refine r_iald C (id := 135) (n := 3) (a := 2) (by decide) rfl (by decide) (by decide) dL_agree_316 ?_
                      refine r_topi (w := nI s) ((congrFun (kMu5 135 (by decide)).1 2).trans hz2) ?_
                      refine r_icmpN_ne C 357 dL_agree_317 (by decide) (by omega) (by omega) (fun h317 => ?_) (fun h317 => ?_)
                      · exact absurd rfl h317
                      ·
                        refine r_aload_n C dL_agree_320 rfl 2 rfl ?_
                        refine r_aload_n C dL_agree_321 rfl 3 rfl ?_
                        refine r_aload_n C dL_agree_322 rfl 4 rfl ?_
                        refine r_aload_n C dL_agree_323 rfl 5 rfl ?_
                        refine r_aload C dL_agree_324 6 rfl ?_
                        refine r_aload C dL_agree_326 7 rfl ?_
                        refine r_ncallS_i (nA := 6) C hN (Nat.le_of_ble_eq_true rfl) [.ref (ad 117), .ref (ad 135), .ref (ad 136), .ref (ad 137), .ref (ad 138), .ref (ad 139)] (c_L_bound l D cs ad Mu5  z n d s e sMu5 tMu5) (tt_S ml_L_89 st_L_bound in_L co_L_bound) ⟨rfl, rfl⟩ ⟨rfl, by decide, by decide, by decide⟩ ⟨Nat.le_of_ble_eq_true rfl, Nat.le_of_ble_eq_true rfl⟩ rfl rfl (Nat.le_of_ble_eq_true rfl) dL_agree_328 (fun ru6 Mu6 qu6 => ?_)
                        have sMu6 := lkC sMu5 qu6.2
                        have tMu6 := lkL tMu5 qu6.2
                        have kMu6 := kMu5.tr qu6.2
                        refine r_topi (w := bI true) qu6.1 ?_
                        refine r_ifB_eq C 357 dL_agree_331 (by decide) (fun h331 => ?_) (fun h331 => ?_)
                        · exact absurd (h331.symm.trans (rfl : true = true)) (by decide)
                        ·
                          refine r_aload_n C dL_agree_334 rfl 2 rfl ?_
                          refine r_aload_n C dL_agree_335 rfl 3 rfl ?_
                          refine r_aload_n C dL_agree_336 rfl 4 rfl ?_
                          refine r_aload_n C dL_agree_337 rfl 5 rfl ?_
                          refine r_ucallS_i (nA := 4) C hN (Nat.le_of_ble_eq_true rfl) [.ref (ad 117), .ref (ad 135), .ref (ad 136), .ref (ad 137)] (c_L_cliques l D cs ad Mu6  z n d s e sMu6 tMu6 h0) (tt_S ml_L_92 st_L_cliques in_L co_L_cliques) ⟨rfl, rfl⟩ ⟨rfl, by decide, by decide, by decide⟩ ⟨Nat.le_of_ble_eq_true rfl, Nat.le_of_ble_eq_true rfl⟩ rfl rfl (Nat.le_of_ble_eq_true rfl) dL_agree_338 (fun ru7 Mu7 qu7 => ?_)
                          have sMu7 := lk_CS sMu6 (fun i hi => (qu7.2 i (by omega) (by omega)).1)
                          have tMu7 := lk_LR tMu6 (fun i h1 h2 => (qu7.2 i (by omega) (by omega)).1)
                          have kMu7 := lkW.pt kMu6 qu7.2
                          refine r_topi (w := bI true) qu7.1 ?_
                          refine r_ifB_eq C 357 dL_agree_341 (by decide) (fun h341 => ?_) (fun h341 => ?_)
                          · exact absurd (h341.symm.trans h331) (by decide)
                          ·
                            refine r_aload_n C dL_agree_344 rfl 2 rfl ?_
                            refine r_aload_n C dL_agree_345 rfl 3 rfl ?_
                            refine r_aload_n C dL_agree_346 rfl 5 rfl ?_
                            refine r_ncallS_i (nA := 3) C hN (Nat.le_of_ble_eq_true rfl) [.ref (ad 117), .ref (ad 135), .ref (ad 137)] (c_L_colors l D cs ad Mu7  z n d s e sMu7 tMu7) (tt_S ml_L_96 st_L_colors in_L co_L_colors) ⟨rfl, rfl⟩ ⟨rfl, by decide, by decide, by decide⟩ ⟨Nat.le_of_ble_eq_true rfl, Nat.le_of_ble_eq_true rfl⟩ rfl rfl (Nat.le_of_ble_eq_true rfl) dL_agree_347 (fun ru8 Mu8 qu8 => ?_)
                            have sMu8 := lkC sMu7 qu8.2
                            have tMu8 := lkL tMu7 qu8.2
                            have kMu8 := kMu7.tr qu8.2
                            refine r_topi (w := bI true) qu8.1 ?_
                            refine r_ifB_eq C 357 dL_agree_350 (by decide) (fun h350 => ?_) (fun h350 => ?_)
                            · exact absurd (h350.symm.trans h341) (by decide)
                            ·
                              refine r_iconst C (nI 1) dL_agree_353 (by decide) ?_
                              refine r_goto C 358 dL_agree_354 (by decide) ?_
                              exact E 1 _ _ _ _ (Nat.le_of_ble_eq_true rfl) dL_agree_358 rfl (⟨rfl, kMu8⟩)
            ·
              refine r_aload_n C dL_agree_235 rfl 2 rfl ?_
              refine r_iload C dL_agree_236 0 rfl ?_
              refine r_npcallV_i (nA := 1) C hN (Nat.le_of_ble_eq_true rfl) [.int (nI p)] (c_X7_handle l D cs ad M3  z n d sM3.2.2.2.1 hn8 hd9.2 p (by omega)) (tt_V ml_L_86 im_X7_handle se_X7_handle in_X7 co_X7_handle) ⟨rfl, rfl⟩ ⟨rfl, by decide, by decide, by decide⟩ ⟨Nat.le_of_ble_eq_true rfl, Nat.le_of_ble_eq_true rfl⟩ (by decide) rfl rfl rfl rfl rfl (Nat.le_of_ble_eq_true rfl) dL_agree_238 ?_
              refine r_aload C dL_agree_241 7 rfl ?_
              refine r_iload C dL_agree_243 0 rfl ?_
              refine r_iald C (id := 139) (n := 4) (a := p) (by decide) rfl (by omega) (by decide) dL_agree_245 ?_
              refine r_topi (w := (z (50 + p))) ((tM3).2.2.2.2.2 p (by omega)) ?_
              refine r_icmp_eq C 251 dL_agree_246 (by decide) (fun h246 => ?_) (fun h246 => ?_)
              ·
                refine r_iinc C (nI (p + 1)) [(7, .int (nI (p + 1))), (6, .int (sI (fun i => sI (fun j => bI (mfp z (8 * i + j))) n) n)), (0, .ref (ad 117)), (1, .ref (ad 135)), (2, .ref (ad 136)), (3, .ref (ad 137)), (4, .ref (ad 138)), (5, .ref (ad 139))] dL_agree_251 (j := 0) rfl (inc_n p 1) (by decide) rfl ?_
                refine r_goto C 227 dL_agree_254 (by decide) ?_
                refine r_lv (lv2 := [(7, .int (nI (p + 1))), (6, .int (sI (fun i => sI (fun j => bI (mfp z (8 * i + j))) n) n)), (0, .ref (ad 117)), (1, .ref (ad 135)), (2, .ref (ad 136)), (3, .ref (ad 137)), (4, .ref (ad 138)), (5, .ref (ad 139))]) [0, 1, 2, 3, 4, 5, 6, 7] rfl ?_
                exact ih_p (p + 1) (by omega) (by omega)
              · exact absurd rfl h246
        refine r_lv (lv2 := [(7, .int (nI 0)), (6, .int (sI (fun i => sI (fun j => bI (mfp z (8 * i + j))) n) n)), (0, .ref (ad 117)), (1, .ref (ad 135)), (2, .ref (ad 136)), (3, .ref (ad 137)), (4, .ref (ad 138)), (5, .ref (ad 139))]) [0, 1, 2, 3, 4, 5, 6, 7] rfl ?_
        exact Ls (d + 1) 0 (by omega) (by omega)
      ·
        refine r_iconst C (nI 0) dL_agree_14 (by decide) ?_
        refine r_istore C [(8, .int (nI 0)), (7, .int (nI a)), (6, .int (sI (fun i => sI (fun j => bI (mfp z (8 * i + j))) n) a)), (0, .ref (ad 117)), (1, .ref (ad 135)), (2, .ref (ad 136)), (3, .ref (ad 137)), (4, .ref (ad 138)), (5, .ref (ad 139))] dL_agree_15 (by decide) rfl ?_
        refine r_iconst C (nI 0) dL_agree_17 (by decide) ?_
        refine r_lve (lv2 := [(8, .int (nI 0)), (7, .int (nI a)), (6, .int (sI (fun i => sI (fun j => bI (mfp z (8 * i + j))) n) a + sI (fun j => bI (mfp z (8 * a + j))) 0)), (0, .ref (ad 117)), (1, .ref (ad 135)), (2, .ref (ad 136)), (3, .ref (ad 137)), (4, .ref (ad 138)), (5, .ref (ad 139))]) (by rw [show sI (fun i => sI (fun j => bI (mfp z (8 * i + j))) n) a + sI (fun j => bI (mfp z (8 * a + j))) 0 = sI (fun i => sI (fun j => bI (mfp z (8 * i + j))) n) a from Int32.add_zero _]) ?_
        refine r_istore C [(9, .int (nI 0)), (8, .int (nI 0)), (7, .int (nI a)), (6, .int (sI (fun i => sI (fun j => bI (mfp z (8 * i + j))) n) a + sI (fun j => bI (mfp z (8 * a + j))) 0)), (0, .ref (ad 117)), (1, .ref (ad 135)), (2, .ref (ad 136)), (3, .ref (ad 137)), (4, .ref (ad 138)), (5, .ref (ad 139))] dL_agree_18 (by decide) rfl ?_
        have Lq : ∀ (f_b b : Nat), n + 1 ≤ b + f_b → b ≤ n → VV l D cs ad 11 κ 0 M3 20 [(9, .int (nI b)), (6, .int (sI (fun i => sI (fun j => bI (mfp z (8 * i + j))) n) a + sI (fun j => bI (mfp z (8 * a + j))) b)), (8, .int (sI (fun j => bI (e a j)) b)), (7, .int (nI a)), (0, .ref (ad 117)), (1, .ref (ad 135)), (2, .ref (ad 136)), (3, .ref (ad 137)), (4, .ref (ad 138)), (5, .ref (ad 139))] [] := by
          intro f_b
          induction f_b with
          | zero => intro b hk1_b hk2_b; exact absurd hk1_b (by omega)
          | succ f_b ih_b =>
            intro b hk1_b hk2_b
            refine r_iload C dL_agree_20 0 rfl ?_
            refine r_aload_n C dL_agree_22 rfl 5 rfl ?_
            refine r_iconst C (nI 0) dL_agree_23 (by decide) ?_
            refine r_iald C (id := 135) (n := 3) (a := 0) (by decide) rfl (by decide) (by decide) dL_agree_24 ?_
            refine r_topi (w := nI n) (tM3).1 ?_
            refine r_icmpN_ge C 108 dL_agree_25 (by decide) (by omega) (by omega) (fun h25 => ?_) (fun h25 => ?_)
            ·
              have hk9 : n = b := by omega
              subst hk9
              refine r_aload_n C dL_agree_108 rfl 4 rfl ?_
              refine r_iload C dL_agree_109 3 rfl ?_
              refine r_iconst C (nI 0) dL_agree_111 (by decide) ?_
              refine r_ncallV_i (nA := 2) C hN (Nat.le_of_ble_eq_true rfl) [.int (nI a), .int (nI 0)] (c_X7_vertex l D cs ad M3  z n d sM3.2.2.2.1 hn8 hm mk (wtz z) hk hw hsy hn1 a 0 (by omega) (by omega)) (tt_V ml_L_49 im_X7_vertex se_X7_vertex in_X7 co_X7_vertex) ⟨rfl, rfl⟩ ⟨rfl, by decide, by decide, by decide⟩ ⟨Nat.le_of_ble_eq_true rfl, Nat.le_of_ble_eq_true rfl⟩ (by decide) rfl rfl rfl rfl rfl (Nat.le_of_ble_eq_true rfl) dL_agree_112 (fun ru9 Mu9 qu9 => ?_)
              have sMu9 := lkC sM3 qu9.2
              have tMu9 := lkL tM3 qu9.2
              have kMu9 := kM3.tr qu9.2
              refine r_topi (w := (z (2 + a))) (qu9.1.trans (rfl)) ?_
              refine r_aload_n C dL_agree_115 rfl 6 rfl ?_
              refine r_iload C dL_agree_116 3 rfl ?_
              refine r_iald C (id := 136) (n := 4) (a := a) (by decide) rfl (by omega) (by decide) dL_agree_118 ?_
              refine r_topi (w := (z (2 + a))) ((tMu9).2.2.1 a (by omega)) ?_
              refine r_icmp_ne C 175 dL_agree_119 (by decide) (fun h119 => ?_) (fun h119 => ?_)
              · exact absurd rfl h119
              ·
                refine r_aload_n C dL_agree_122 rfl 4 rfl ?_
                refine r_iload C dL_agree_123 3 rfl ?_
                refine r_iconst C (nI 1) dL_agree_125 (by decide) ?_
                refine r_ncallV_i (nA := 2) C hN (Nat.le_of_ble_eq_true rfl) [.int (nI a), .int (nI 1)] (c_X7_vertex l D cs ad Mu9  z n d sMu9.2.2.2.1 hn8 hm mk (wtz z) hk hw hsy hn1 a 1 (by omega) (by omega)) (tt_V ml_L_49 im_X7_vertex se_X7_vertex in_X7 co_X7_vertex) ⟨rfl, rfl⟩ ⟨rfl, by decide, by decide, by decide⟩ ⟨Nat.le_of_ble_eq_true rfl, Nat.le_of_ble_eq_true rfl⟩ (by decide) rfl rfl rfl rfl rfl (Nat.le_of_ble_eq_true rfl) dL_agree_126 (fun ru10 Mu10 qu10 => ?_)
                have sMu10 := lkC sMu9 qu10.2
                have tMu10 := lkL tMu9 qu10.2
                have kMu10 := kMu9.tr qu10.2
                refine r_topi (w := (sI (fun j => bI (e a j)) n)) (qu10.1.trans (on_e hn8 he hk (by omega))) ?_
                refine r_iload C dL_agree_129 2 rfl ?_
                refine r_icmp_ne C 175 dL_agree_131 (by decide) (fun h131 => ?_) (fun h131 => ?_)
                · exact absurd rfl h131
                ·
                  refine r_aload_n C dL_agree_134 rfl 4 rfl ?_
                  refine r_iload C dL_agree_135 3 rfl ?_
                  refine r_iconst C (nI 2) dL_agree_137 (by decide) ?_
                  refine r_ncallV_i (nA := 2) C hN (Nat.le_of_ble_eq_true rfl) [.int (nI a), .int (nI 2)] (c_X7_vertex l D cs ad Mu10  z n d sMu10.2.2.2.1 hn8 hm mk (wtz z) hk hw hsy hn1 a 2 (by omega) (by omega)) (tt_V ml_L_49 im_X7_vertex se_X7_vertex in_X7 co_X7_vertex) ⟨rfl, rfl⟩ ⟨rfl, by decide, by decide, by decide⟩ ⟨Nat.le_of_ble_eq_true rfl, Nat.le_of_ble_eq_true rfl⟩ (by decide) rfl rfl rfl rfl rfl (Nat.le_of_ble_eq_true rfl) dL_agree_138 (fun ru11 Mu11 qu11 => ?_)
                  have sMu11 := lkC sMu10 qu11.2
                  have tMu11 := lkL tMu10 qu11.2
                  have kMu11 := kMu10.tr qu11.2
                  refine r_topi (w := (dotz z (18 + 4 * a) (18 + 4 * a))) (qu11.1.trans (rfl)) ?_
                  refine r_aload C dL_agree_141 8 rfl ?_
                  refine r_iload C dL_agree_143 3 rfl ?_
                  refine r_aload C dL_agree_145 8 rfl ?_
                  refine r_iload C dL_agree_147 3 rfl ?_
                  refine r_pcallS_i (nA := 4) C (Nat.le_of_ble_eq_true rfl) [.ref (ad 138), .int (nI a), .ref (ad 138), .int (nI a)] (c_L_prod_ll l D cs ad Mu11  a (by omega) a (by omega)) (tt_S ml_L_8 st_L_product in_L co_L_product) ⟨rfl, rfl⟩ ⟨rfl, by decide, by decide, by decide⟩ ⟨Nat.le_of_ble_eq_true rfl, Nat.le_of_ble_eq_true rfl⟩ rfl rfl (Nat.le_of_ble_eq_true rfl) dL_agree_149 ?_
                  refine r_topi (w := (dotz z (18 + 4 * a) (18 + 4 * a))) (pL_ll tMu11 (by omega) (by omega)) ?_
                  refine r_icmp_ne C 175 dL_agree_152 (by decide) (fun h152 => ?_) (fun h152 => ?_)
                  · exact absurd rfl h152
                  ·
                    refine r_aload_n C dL_agree_155 rfl 4 rfl ?_
                    refine r_iload C dL_agree_156 3 rfl ?_
                    refine r_iconst C (nI 3) dL_agree_158 (by decide) ?_
                    refine r_ncallV_i (nA := 2) C hN (Nat.le_of_ble_eq_true rfl) [.int (nI a), .int (nI 3)] (c_X7_vertex l D cs ad Mu11  z n d sMu11.2.2.2.1 hn8 hm mk (wtz z) hk hw hsy hn1 a 3 (by omega) (by omega)) (tt_V ml_L_49 im_X7_vertex se_X7_vertex in_X7 co_X7_vertex) ⟨rfl, rfl⟩ ⟨rfl, by decide, by decide, by decide⟩ ⟨Nat.le_of_ble_eq_true rfl, Nat.le_of_ble_eq_true rfl⟩ (by decide) rfl rfl rfl rfl rfl (Nat.le_of_ble_eq_true rfl) dL_agree_159 (fun ru12 Mu12 qu12 => ?_)
                    have sMu12 := lkC sMu11 qu12.2
                    have tMu12 := lkL tMu11 qu12.2
                    have kMu12 := kMu11.tr qu12.2
                    refine r_topi (w := (dotz z 50 (18 + 4 * a))) (qu12.1.trans (rfl)) ?_
                    refine r_aload C dL_agree_162 8 rfl ?_
                    refine r_iload C dL_agree_164 3 rfl ?_
                    refine r_aload C dL_agree_166 9 rfl ?_
                    refine r_iconst C (nI 0) dL_agree_168 (by decide) ?_
                    refine r_pcallS_i (nA := 4) C (Nat.le_of_ble_eq_true rfl) [.ref (ad 138), .int (nI a), .ref (ad 139), .int (nI 0)] (c_L_prod_lh l D cs ad Mu12  a (by omega)) (tt_S ml_L_8 st_L_product in_L co_L_product) ⟨rfl, rfl⟩ ⟨rfl, by decide, by decide, by decide⟩ ⟨Nat.le_of_ble_eq_true rfl, Nat.le_of_ble_eq_true rfl⟩ rfl rfl (Nat.le_of_ble_eq_true rfl) dL_agree_169 ?_
                    refine r_topi (w := (dotz z 50 (18 + 4 * a))) (pL_lh tMu12 (by omega)) ?_
                    refine r_icmp_eq C 177 dL_agree_172 (by decide) (fun h172 => ?_) (fun h172 => ?_)
                    ·
                      refine r_iconst C (nI 0) dL_agree_177 (by decide) ?_
                      refine r_istore C [(9, .int (nI 0)), (6, .int (sI (fun i => sI (fun j => bI (mfp z (8 * i + j))) n) a + sI (fun j => bI (mfp z (8 * a + j))) n)), (8, .int (sI (fun j => bI (e a j)) n)), (7, .int (nI a)), (0, .ref (ad 117)), (1, .ref (ad 135)), (2, .ref (ad 136)), (3, .ref (ad 137)), (4, .ref (ad 138)), (5, .ref (ad 139))] dL_agree_178 (by decide) rfl ?_
                      have Lr : ∀ (f_k2 k2 : Nat) (M4 : Mm), 4 + 1 ≤ k2 + f_k2 → k2 ≤ 4 → lkP M M4 → VV l D cs ad 11 κ 0 M4 180 [(9, .int (nI k2)), (7, .int (nI a)), (6, .int (sI (fun i => sI (fun j => bI (mfp z (8 * i + j))) n) (a + 1))), (0, .ref (ad 117)), (1, .ref (ad 135)), (2, .ref (ad 136)), (3, .ref (ad 137)), (4, .ref (ad 138)), (5, .ref (ad 139))] [] := by
                        intro f_k2
                        induction f_k2 with
                        | zero => intro k2 M4 hk1_k2 hk2_k2 hI_k2; exact absurd hk1_k2 (by omega)
                        | succ f_k2 ih_k2 =>
                          intro k2 M4 hk1_k2 hk2_k2 hI_k2
                          have sM4 := lkC sM hI_k2
                          have tM4 := lkL tM hI_k2
                          have kM4 := hI_k2
                          refine r_iload C dL_agree_180 0 rfl ?_
                          refine r_iconst C (nI 4) dL_agree_182 (by decide) ?_
                          refine r_icmpN_ge C 218 dL_agree_183 (by decide) (by omega) (by omega) (fun h183 => ?_) (fun h183 => ?_)
                          ·
                            have hk9 : 4 = k2 := by omega
                            subst hk9
                            refine r_iinc C (nI (a + 1)) [(7, .int (nI (a + 1))), (9, .int (nI 4)), (6, .int (sI (fun i => sI (fun j => bI (mfp z (8 * i + j))) n) (a + 1))), (0, .ref (ad 117)), (1, .ref (ad 135)), (2, .ref (ad 136)), (3, .ref (ad 137)), (4, .ref (ad 138)), (5, .ref (ad 139))] dL_agree_218 (j := 1) rfl (inc_n a 1) (by decide) rfl ?_
                            refine r_goto C 6 dL_agree_221 (by decide) ?_
                            refine r_lv (lv2 := [(7, .int (nI (a + 1))), (6, .int (sI (fun i => sI (fun j => bI (mfp z (8 * i + j))) n) (a + 1))), (0, .ref (ad 117)), (1, .ref (ad 135)), (2, .ref (ad 136)), (3, .ref (ad 137)), (4, .ref (ad 138)), (5, .ref (ad 139))]) [0, 2, 3, 4, 5, 6, 7, 8] rfl ?_
                            exact ih_a (a + 1) _ (by omega) (by omega) hI_k2
                          ·
                            refine r_aload_n C dL_agree_186 rfl 3 rfl ?_
                            refine r_iload C dL_agree_187 1 rfl ?_
                            refine r_bipush C (nI 10) dL_agree_189 (by decide) ?_
                            refine r_iload C dL_agree_191 0 rfl ?_
                            refine r_iadd C dL_agree_193 ?_
                            refine r_topi (nI_add 10 k2) ?_
                            refine r_ncallV_i (nA := 2) C hN (Nat.le_of_ble_eq_true rfl) [.int (nI a), .int (nI (10 + k2))] (c_X7_vertex l D cs ad M4  z n d sM4.2.2.2.1 hn8 hm mk (wtz z) hk hw hsy hn1 a (10 + k2) (by omega) (by omega)) (tt_V ml_L_49 im_X7_vertex se_X7_vertex in_X7 co_X7_vertex) ⟨rfl, rfl⟩ ⟨rfl, by decide, by decide, by decide⟩ ⟨Nat.le_of_ble_eq_true rfl, Nat.le_of_ble_eq_true rfl⟩ (by decide) rfl rfl rfl rfl rfl (Nat.le_of_ble_eq_true rfl) dL_agree_194 (fun ru13 Mu13 qu13 => ?_)
                            have sMu13 := lkC sM4 qu13.2
                            have tMu13 := lkL tM4 qu13.2
                            have kMu13 := kM4.tr qu13.2
                            refine r_topi (w := (z (18 + 4 * a + k2))) (qu13.1.trans (vn_k)) ?_
                            refine r_aload C dL_agree_197 7 rfl ?_
                            refine r_iconst C (nI 4) dL_agree_199 (by decide) ?_
                            refine r_iload C dL_agree_200 1 rfl ?_
                            refine r_imul C dL_agree_202 ?_
                            refine r_topi (pk_mul 4 a) ?_
                            refine r_iload C dL_agree_203 0 rfl ?_
                            refine r_iadd C dL_agree_205 ?_
                            refine r_topi (nI_add (4 * a) k2) ?_
                            refine r_iald C (id := 138) (n := 20) (a := (4 * a) + k2) (by decide) rfl (by omega) (by decide) dL_agree_206 ?_
                            refine r_topi (w := (z (18 + 4 * a + k2))) ((tMu13).2.2.2.2.1 a k2 (by omega) (by omega)) ?_
                            refine r_icmp_eq C 212 dL_agree_207 (by decide) (fun h207 => ?_) (fun h207 => ?_)
                            ·
                              refine r_iinc C (nI (k2 + 1)) [(9, .int (nI (k2 + 1))), (7, .int (nI a)), (6, .int (sI (fun i => sI (fun j => bI (mfp z (8 * i + j))) n) (a + 1))), (0, .ref (ad 117)), (1, .ref (ad 135)), (2, .ref (ad 136)), (3, .ref (ad 137)), (4, .ref (ad 138)), (5, .ref (ad 139))] dL_agree_212 (j := 0) rfl (inc_n k2 1) (by decide) rfl ?_
                              refine r_goto C 180 dL_agree_215 (by decide) ?_
                              refine r_lv (lv2 := [(9, .int (nI (k2 + 1))), (7, .int (nI a)), (6, .int (sI (fun i => sI (fun j => bI (mfp z (8 * i + j))) n) (a + 1))), (0, .ref (ad 117)), (1, .ref (ad 135)), (2, .ref (ad 136)), (3, .ref (ad 137)), (4, .ref (ad 138)), (5, .ref (ad 139))]) [0, 1, 2, 3, 4, 5, 6, 7, 8] rfl ?_
                              exact ih_k2 (k2 + 1) _ (by omega) (by omega) kMu13
                            · exact absurd rfl h207
                      refine r_lv (lv2 := [(9, .int (nI 0)), (7, .int (nI a)), (6, .int (sI (fun i => sI (fun j => bI (mfp z (8 * i + j))) n) (a + 1))), (0, .ref (ad 117)), (1, .ref (ad 135)), (2, .ref (ad 136)), (3, .ref (ad 137)), (4, .ref (ad 138)), (5, .ref (ad 139))]) [0, 3, 1, 4, 5, 6, 7, 8, 9] rfl ?_
                      exact Lr (4 + 1) 0 _ (by omega) (by omega) kMu12
                    · exact absurd rfl h172
            ·
              refine r_iload C dL_agree_28 3 rfl ?_
              refine r_iload C dL_agree_30 0 rfl ?_
              refine r_icmpN_ne C 39 dL_agree_32 (by decide) (by omega) (by omega) (fun h32 => ?_) (fun h32 => ?_)
              ·
                refine r_aload_n C dL_agree_39 rfl 7 rfl ?_
                refine r_iconst C (nI 4) dL_agree_40 (by decide) ?_
                refine r_iload C dL_agree_41 3 rfl ?_
                refine r_imul C dL_agree_43 ?_
                refine r_topi (pk_mul 4 a) ?_
                refine r_iload C dL_agree_44 0 rfl ?_
                refine r_iadd C dL_agree_46 ?_
                refine r_topi (nI_add (4 * a) b) ?_
                refine r_iald C (id := 137) (n := 20) (a := (4 * a) + b) (by decide) rfl (by omega) (by decide) dL_agree_47 ?_
                refine r_topi (w := bI (e a b)) ((tM3).2.2.2.1 a b (by omega) (by omega)) ?_
                refine r_istore C [(10, .int (bI (e a b))), (9, .int (nI b)), (6, .int (sI (fun i => sI (fun j => bI (mfp z (8 * i + j))) n) a + sI (fun j => bI (mfp z (8 * a + j))) b)), (8, .int (sI (fun j => bI (e a j)) b)), (7, .int (nI a)), (0, .ref (ad 117)), (1, .ref (ad 135)), (2, .ref (ad 136)), (3, .ref (ad 137)), (4, .ref (ad 138)), (5, .ref (ad 139))] dL_agree_48 (by decide) rfl ?_
                refine r_iload C dL_agree_50 3 rfl ?_
                refine r_iload C dL_agree_52 0 rfl ?_
                refine r_iadd C dL_agree_54 ?_
                refine r_istore C [(8, .int ((sI (fun j => bI (e a j)) b) + (bI (e a b)))), (10, .int (bI (e a b))), (9, .int (nI b)), (6, .int (sI (fun i => sI (fun j => bI (mfp z (8 * i + j))) n) a + sI (fun j => bI (mfp z (8 * a + j))) b)), (7, .int (nI a)), (0, .ref (ad 117)), (1, .ref (ad 135)), (2, .ref (ad 136)), (3, .ref (ad 137)), (4, .ref (ad 138)), (5, .ref (ad 139))] dL_agree_55 (by decide) rfl ?_
                refine r_aload_n C dL_agree_57 rfl 5 rfl ?_
                refine r_iload C dL_agree_58 4 rfl ?_
                refine r_iload C dL_agree_60 2 rfl ?_
                refine r_npcallV_i (nA := 2) C hN (Nat.le_of_ble_eq_true rfl) [.int (nI a), .int (nI b)] (c_X7_joined l D cs ad M3  z n d sM3.2.2.2.1 hn8 hm a b (by omega) (by omega)) (tt_V ml_L_83 im_X7_joined se_X7_joined in_X7 co_X7_joined) ⟨rfl, rfl⟩ ⟨rfl, by decide, by decide, by decide⟩ ⟨Nat.le_of_ble_eq_true rfl, Nat.le_of_ble_eq_true rfl⟩ (by decide) rfl rfl rfl rfl rfl (Nat.le_of_ble_eq_true rfl) dL_agree_62 ?_
                refine r_topi (w := bI (e a b)) (congrArg bI (eb_bt hn8 he (by omega) (by omega))) ?_
                refine r_iload C dL_agree_65 1 rfl ?_
                refine r_icmp_eq C 72 dL_agree_67 (by decide) (fun h67 => ?_) (fun h67 => ?_)
                ·
                  refine r_iload C dL_agree_72 4 rfl ?_
                  refine r_iload C dL_agree_74 2 rfl ?_
                  refine r_icmpN_ge C 102 dL_agree_76 (by decide) (by omega) (by omega) (fun h76 => ?_) (fun h76 => ?_)
                  ·
                    have hbd : sI (fun i => sI (fun j => bI (mfp z (8 * i + j))) n) a + sI (fun j => bI (mfp z (8 * a + j))) b = sI (fun i => sI (fun j => bI (mfp z (8 * i + j))) n) a + (sI (fun j => bI (mfp z (8 * a + j))) b + bI (mfp z (8 * a + b))) := bad_n (mf_le (by omega) (by omega))
                    refine r_lve (lv2 := [(8, .int ((sI (fun j => bI (e a j)) b) + (bI (e a b)))), (10, .int (bI (e a b))), (9, .int (nI b)), (6, .int (sI (fun i => sI (fun j => bI (mfp z (8 * i + j))) n) a + sI (fun j => bI (mfp z (8 * a + j))) (b + 1))), (7, .int (nI a)), (0, .ref (ad 117)), (1, .ref (ad 135)), (2, .ref (ad 136)), (3, .ref (ad 137)), (4, .ref (ad 138)), (5, .ref (ad 139))]) (by first | (rw [hbd]; rfl) | exact congrArg (fun x => (6, Value.int x) :: _) hbd) ?_
                    refine r_iinc C (nI (b + 1)) [(9, .int (nI (b + 1))), (8, .int ((sI (fun j => bI (e a j)) b) + (bI (e a b)))), (10, .int (bI (e a b))), (6, .int (sI (fun i => sI (fun j => bI (mfp z (8 * i + j))) n) a + sI (fun j => bI (mfp z (8 * a + j))) (b + 1))), (7, .int (nI a)), (0, .ref (ad 117)), (1, .ref (ad 135)), (2, .ref (ad 136)), (3, .ref (ad 137)), (4, .ref (ad 138)), (5, .ref (ad 139))] dL_agree_102 (j := 2) rfl (inc_n b 1) (by decide) rfl ?_
                    refine r_goto C 20 dL_agree_105 (by decide) ?_
                    refine r_lv (lv2 := [(9, .int (nI (b + 1))), (6, .int (sI (fun i => sI (fun j => bI (mfp z (8 * i + j))) n) a + sI (fun j => bI (mfp z (8 * a + j))) (b + 1))), (8, .int (sI (fun j => bI (e a j)) (b + 1))), (7, .int (nI a)), (0, .ref (ad 117)), (1, .ref (ad 135)), (2, .ref (ad 136)), (3, .ref (ad 137)), (4, .ref (ad 138)), (5, .ref (ad 139))]) [0, 3, 1, 4, 5, 6, 7, 8, 9, 10] rfl ?_
                    exact ih_b (b + 1) (by omega) (by omega)
                  ·
                    refine r_iload C dL_agree_79 1 rfl ?_
                    refine r_iconst C (nI 1) dL_agree_81 (by decide) ?_
                    refine r_icmp_ne C 102 dL_agree_82 (by decide) (fun h82 => ?_) (fun h82 => ?_)
                    ·
                      have hbd : sI (fun i => sI (fun j => bI (mfp z (8 * i + j))) n) a + sI (fun j => bI (mfp z (8 * a + j))) b = sI (fun i => sI (fun j => bI (mfp z (8 * i + j))) n) a + (sI (fun j => bI (mfp z (8 * a + j))) b + bI (mfp z (8 * a + b))) := bad_n (mf_off hn8 he (by omega) (by omega) (Or.inl (b1_f h82)))
                      refine r_lve (lv2 := [(8, .int ((sI (fun j => bI (e a j)) b) + (bI (e a b)))), (10, .int (bI (e a b))), (9, .int (nI b)), (6, .int (sI (fun i => sI (fun j => bI (mfp z (8 * i + j))) n) a + sI (fun j => bI (mfp z (8 * a + j))) (b + 1))), (7, .int (nI a)), (0, .ref (ad 117)), (1, .ref (ad 135)), (2, .ref (ad 136)), (3, .ref (ad 137)), (4, .ref (ad 138)), (5, .ref (ad 139))]) (by first | (rw [hbd]; rfl) | exact congrArg (fun x => (6, Value.int x) :: _) hbd) ?_
                      refine r_iinc C (nI (b + 1)) [(9, .int (nI (b + 1))), (8, .int ((sI (fun j => bI (e a j)) b) + (bI (e a b)))), (10, .int (bI (e a b))), (6, .int (sI (fun i => sI (fun j => bI (mfp z (8 * i + j))) n) a + sI (fun j => bI (mfp z (8 * a + j))) (b + 1))), (7, .int (nI a)), (0, .ref (ad 117)), (1, .ref (ad 135)), (2, .ref (ad 136)), (3, .ref (ad 137)), (4, .ref (ad 138)), (5, .ref (ad 139))] dL_agree_102 (j := 2) rfl (inc_n b 1) (by decide) rfl ?_
                      refine r_goto C 20 dL_agree_105 (by decide) ?_
                      refine r_lv (lv2 := [(9, .int (nI (b + 1))), (6, .int (sI (fun i => sI (fun j => bI (mfp z (8 * i + j))) n) a + sI (fun j => bI (mfp z (8 * a + j))) (b + 1))), (8, .int (sI (fun j => bI (e a j)) (b + 1))), (7, .int (nI a)), (0, .ref (ad 117)), (1, .ref (ad 135)), (2, .ref (ad 136)), (3, .ref (ad 137)), (4, .ref (ad 138)), (5, .ref (ad 139))]) [0, 3, 1, 4, 5, 6, 7, 8, 9, 10] rfl ?_
                      exact ih_b (b + 1) (by omega) (by omega)
                    ·
                      refine r_aload C dL_agree_85 9 rfl ?_
                      refine r_iload C dL_agree_87 4 rfl ?_
                      refine r_aload C dL_agree_89 9 rfl ?_
                      refine r_iload C dL_agree_91 2 rfl ?_
                      refine r_pcallS_i (nA := 4) C (Nat.le_of_ble_eq_true rfl) [.ref (ad 138), .int (nI a), .ref (ad 138), .int (nI b)] (c_L_prod_ll l D cs ad M3  a (by omega) b (by omega)) (tt_S ml_L_8 st_L_product in_L co_L_product) ⟨rfl, rfl⟩ ⟨rfl, by decide, by decide, by decide⟩ ⟨Nat.le_of_ble_eq_true rfl, Nat.le_of_ble_eq_true rfl⟩ rfl rfl (Nat.le_of_ble_eq_true rfl) dL_agree_93 ?_
                      refine r_topi (w := (dotz z (18 + 4 * a) (18 + 4 * b))) (pL_ll tM3 (by omega) (by omega)) ?_
                      refine r_if_eq C 102 dL_agree_96 (by decide) (fun h96 => ?_) (fun h96 => ?_)
                      ·
                        have hbd : sI (fun i => sI (fun j => bI (mfp z (8 * i + j))) n) a + sI (fun j => bI (mfp z (8 * a + j))) b = sI (fun i => sI (fun j => bI (mfp z (8 * i + j))) n) a + (sI (fun j => bI (mfp z (8 * a + j))) b + bI (mfp z (8 * a + b))) := bad_n (mf_off hn8 he (by omega) (by omega) (Or.inr h96))
                        refine r_lve (lv2 := [(8, .int ((sI (fun j => bI (e a j)) b) + (bI (e a b)))), (10, .int (bI (e a b))), (9, .int (nI b)), (6, .int (sI (fun i => sI (fun j => bI (mfp z (8 * i + j))) n) a + sI (fun j => bI (mfp z (8 * a + j))) (b + 1))), (7, .int (nI a)), (0, .ref (ad 117)), (1, .ref (ad 135)), (2, .ref (ad 136)), (3, .ref (ad 137)), (4, .ref (ad 138)), (5, .ref (ad 139))]) (by first | (rw [hbd]; rfl) | exact congrArg (fun x => (6, Value.int x) :: _) hbd) ?_
                        refine r_iinc C (nI (b + 1)) [(9, .int (nI (b + 1))), (8, .int ((sI (fun j => bI (e a j)) b) + (bI (e a b)))), (10, .int (bI (e a b))), (6, .int (sI (fun i => sI (fun j => bI (mfp z (8 * i + j))) n) a + sI (fun j => bI (mfp z (8 * a + j))) (b + 1))), (7, .int (nI a)), (0, .ref (ad 117)), (1, .ref (ad 135)), (2, .ref (ad 136)), (3, .ref (ad 137)), (4, .ref (ad 138)), (5, .ref (ad 139))] dL_agree_102 (j := 2) rfl (inc_n b 1) (by decide) rfl ?_
                        refine r_goto C 20 dL_agree_105 (by decide) ?_
                        refine r_lv (lv2 := [(9, .int (nI (b + 1))), (6, .int (sI (fun i => sI (fun j => bI (mfp z (8 * i + j))) n) a + sI (fun j => bI (mfp z (8 * a + j))) (b + 1))), (8, .int (sI (fun j => bI (e a j)) (b + 1))), (7, .int (nI a)), (0, .ref (ad 117)), (1, .ref (ad 135)), (2, .ref (ad 136)), (3, .ref (ad 137)), (4, .ref (ad 138)), (5, .ref (ad 139))]) [0, 3, 1, 4, 5, 6, 7, 8, 9, 10] rfl ?_
                        exact ih_b (b + 1) (by omega) (by omega)
                      ·
                        refine r_iinc C (((sI (fun i => sI (fun j => bI (mfp z (8 * i + j))) n) a + sI (fun j => bI (mfp z (8 * a + j))) b) + (1))) [(6, .int ((sI (fun i => sI (fun j => bI (mfp z (8 * i + j))) n) a + sI (fun j => bI (mfp z (8 * a + j))) b) + (1))), (8, .int ((sI (fun j => bI (e a j)) b) + (bI (e a b)))), (10, .int (bI (e a b))), (9, .int (nI b)), (7, .int (nI a)), (0, .ref (ad 117)), (1, .ref (ad 135)), (2, .ref (ad 136)), (3, .ref (ad 137)), (4, .ref (ad 138)), (5, .ref (ad 139))] dL_agree_99 (j := 3) rfl rfl (by decide) rfl ?_
                        have hbd : (sI (fun i => sI (fun j => bI (mfp z (8 * i + j))) n) a + sI (fun j => bI (mfp z (8 * a + j))) b) + 1 = sI (fun i => sI (fun j => bI (mfp z (8 * i + j))) n) a + (sI (fun j => bI (mfp z (8 * a + j))) b + bI (mfp z (8 * a + b))) := bad_y (mf_on hn8 he (by omega) (by omega) (by omega) (b1_t h82) h96)
                        refine r_lve (lv2 := [(6, .int (sI (fun i => sI (fun j => bI (mfp z (8 * i + j))) n) a + sI (fun j => bI (mfp z (8 * a + j))) (b + 1))), (8, .int ((sI (fun j => bI (e a j)) b) + (bI (e a b)))), (10, .int (bI (e a b))), (9, .int (nI b)), (7, .int (nI a)), (0, .ref (ad 117)), (1, .ref (ad 135)), (2, .ref (ad 136)), (3, .ref (ad 137)), (4, .ref (ad 138)), (5, .ref (ad 139))]) (by first | (rw [hbd]; rfl) | exact congrArg (fun x => (6, Value.int x) :: _) hbd) ?_
                        refine r_iinc C (nI (b + 1)) [(9, .int (nI (b + 1))), (6, .int (sI (fun i => sI (fun j => bI (mfp z (8 * i + j))) n) a + sI (fun j => bI (mfp z (8 * a + j))) (b + 1))), (8, .int ((sI (fun j => bI (e a j)) b) + (bI (e a b)))), (10, .int (bI (e a b))), (7, .int (nI a)), (0, .ref (ad 117)), (1, .ref (ad 135)), (2, .ref (ad 136)), (3, .ref (ad 137)), (4, .ref (ad 138)), (5, .ref (ad 139))] dL_agree_102 (j := 3) rfl (inc_n b 1) (by decide) rfl ?_
                        refine r_goto C 20 dL_agree_105 (by decide) ?_
                        refine r_lv (lv2 := [(9, .int (nI (b + 1))), (6, .int (sI (fun i => sI (fun j => bI (mfp z (8 * i + j))) n) a + sI (fun j => bI (mfp z (8 * a + j))) (b + 1))), (8, .int (sI (fun j => bI (e a j)) (b + 1))), (7, .int (nI a)), (0, .ref (ad 117)), (1, .ref (ad 135)), (2, .ref (ad 136)), (3, .ref (ad 137)), (4, .ref (ad 138)), (5, .ref (ad 139))]) [0, 1, 2, 4, 5, 6, 7, 8, 9, 10] rfl ?_
                        exact ih_b (b + 1) (by omega) (by omega)
                · exact absurd rfl h67
              ·
                refine r_iconst C (nI 0) dL_agree_35 (by decide) ?_
                refine r_goto C 48 dL_agree_36 (by decide) ?_
                refine r_topi (w := bI (e a b)) (by rw [show a = b from h32, sM.2.2.1 b (by omega)]; rfl) ?_
                refine r_istore C [(10, .int (bI (e a b))), (9, .int (nI b)), (6, .int (sI (fun i => sI (fun j => bI (mfp z (8 * i + j))) n) a + sI (fun j => bI (mfp z (8 * a + j))) b)), (8, .int (sI (fun j => bI (e a j)) b)), (7, .int (nI a)), (0, .ref (ad 117)), (1, .ref (ad 135)), (2, .ref (ad 136)), (3, .ref (ad 137)), (4, .ref (ad 138)), (5, .ref (ad 139))] dL_agree_48 (by decide) rfl ?_
                refine r_iload C dL_agree_50 3 rfl ?_
                refine r_iload C dL_agree_52 0 rfl ?_
                refine r_iadd C dL_agree_54 ?_
                refine r_istore C [(8, .int ((sI (fun j => bI (e a j)) b) + (bI (e a b)))), (10, .int (bI (e a b))), (9, .int (nI b)), (6, .int (sI (fun i => sI (fun j => bI (mfp z (8 * i + j))) n) a + sI (fun j => bI (mfp z (8 * a + j))) b)), (7, .int (nI a)), (0, .ref (ad 117)), (1, .ref (ad 135)), (2, .ref (ad 136)), (3, .ref (ad 137)), (4, .ref (ad 138)), (5, .ref (ad 139))] dL_agree_55 (by decide) rfl ?_
                refine r_aload_n C dL_agree_57 rfl 5 rfl ?_
                refine r_iload C dL_agree_58 4 rfl ?_
                refine r_iload C dL_agree_60 2 rfl ?_
                refine r_npcallV_i (nA := 2) C hN (Nat.le_of_ble_eq_true rfl) [.int (nI a), .int (nI b)] (c_X7_joined l D cs ad M3  z n d sM3.2.2.2.1 hn8 hm a b (by omega) (by omega)) (tt_V ml_L_83 im_X7_joined se_X7_joined in_X7 co_X7_joined) ⟨rfl, rfl⟩ ⟨rfl, by decide, by decide, by decide⟩ ⟨Nat.le_of_ble_eq_true rfl, Nat.le_of_ble_eq_true rfl⟩ (by decide) rfl rfl rfl rfl rfl (Nat.le_of_ble_eq_true rfl) dL_agree_62 ?_
                refine r_topi (w := bI (e a b)) (congrArg bI (eb_bt hn8 he (by omega) (by omega))) ?_
                refine r_iload C dL_agree_65 1 rfl ?_
                refine r_icmp_eq C 72 dL_agree_67 (by decide) (fun h67 => ?_) (fun h67 => ?_)
                ·
                  refine r_iload C dL_agree_72 4 rfl ?_
                  refine r_iload C dL_agree_74 2 rfl ?_
                  refine r_icmpN_ge C 102 dL_agree_76 (by decide) (by omega) (by omega) (fun h76 => ?_) (fun h76 => ?_)
                  ·
                    have hbd : sI (fun i => sI (fun j => bI (mfp z (8 * i + j))) n) a + sI (fun j => bI (mfp z (8 * a + j))) b = sI (fun i => sI (fun j => bI (mfp z (8 * i + j))) n) a + (sI (fun j => bI (mfp z (8 * a + j))) b + bI (mfp z (8 * a + b))) := bad_n (mf_le (by omega) (by omega))
                    refine r_lve (lv2 := [(8, .int ((sI (fun j => bI (e a j)) b) + (bI (e a b)))), (10, .int (bI (e a b))), (9, .int (nI b)), (6, .int (sI (fun i => sI (fun j => bI (mfp z (8 * i + j))) n) a + sI (fun j => bI (mfp z (8 * a + j))) (b + 1))), (7, .int (nI a)), (0, .ref (ad 117)), (1, .ref (ad 135)), (2, .ref (ad 136)), (3, .ref (ad 137)), (4, .ref (ad 138)), (5, .ref (ad 139))]) (by first | (rw [hbd]; rfl) | exact congrArg (fun x => (6, Value.int x) :: _) hbd) ?_
                    refine r_iinc C (nI (b + 1)) [(9, .int (nI (b + 1))), (8, .int ((sI (fun j => bI (e a j)) b) + (bI (e a b)))), (10, .int (bI (e a b))), (6, .int (sI (fun i => sI (fun j => bI (mfp z (8 * i + j))) n) a + sI (fun j => bI (mfp z (8 * a + j))) (b + 1))), (7, .int (nI a)), (0, .ref (ad 117)), (1, .ref (ad 135)), (2, .ref (ad 136)), (3, .ref (ad 137)), (4, .ref (ad 138)), (5, .ref (ad 139))] dL_agree_102 (j := 2) rfl (inc_n b 1) (by decide) rfl ?_
                    refine r_goto C 20 dL_agree_105 (by decide) ?_
                    refine r_lv (lv2 := [(9, .int (nI (b + 1))), (6, .int (sI (fun i => sI (fun j => bI (mfp z (8 * i + j))) n) a + sI (fun j => bI (mfp z (8 * a + j))) (b + 1))), (8, .int (sI (fun j => bI (e a j)) (b + 1))), (7, .int (nI a)), (0, .ref (ad 117)), (1, .ref (ad 135)), (2, .ref (ad 136)), (3, .ref (ad 137)), (4, .ref (ad 138)), (5, .ref (ad 139))]) [0, 3, 1, 4, 5, 6, 7, 8, 9, 10] rfl ?_
                    exact ih_b (b + 1) (by omega) (by omega)
                  ·
                    refine r_iload C dL_agree_79 1 rfl ?_
                    refine r_iconst C (nI 1) dL_agree_81 (by decide) ?_
                    refine r_icmp_ne C 102 dL_agree_82 (by decide) (fun h82 => ?_) (fun h82 => ?_)
                    ·
                      have hbd : sI (fun i => sI (fun j => bI (mfp z (8 * i + j))) n) a + sI (fun j => bI (mfp z (8 * a + j))) b = sI (fun i => sI (fun j => bI (mfp z (8 * i + j))) n) a + (sI (fun j => bI (mfp z (8 * a + j))) b + bI (mfp z (8 * a + b))) := bad_n (mf_off hn8 he (by omega) (by omega) (Or.inl (b1_f h82)))
                      refine r_lve (lv2 := [(8, .int ((sI (fun j => bI (e a j)) b) + (bI (e a b)))), (10, .int (bI (e a b))), (9, .int (nI b)), (6, .int (sI (fun i => sI (fun j => bI (mfp z (8 * i + j))) n) a + sI (fun j => bI (mfp z (8 * a + j))) (b + 1))), (7, .int (nI a)), (0, .ref (ad 117)), (1, .ref (ad 135)), (2, .ref (ad 136)), (3, .ref (ad 137)), (4, .ref (ad 138)), (5, .ref (ad 139))]) (by first | (rw [hbd]; rfl) | exact congrArg (fun x => (6, Value.int x) :: _) hbd) ?_
                      refine r_iinc C (nI (b + 1)) [(9, .int (nI (b + 1))), (8, .int ((sI (fun j => bI (e a j)) b) + (bI (e a b)))), (10, .int (bI (e a b))), (6, .int (sI (fun i => sI (fun j => bI (mfp z (8 * i + j))) n) a + sI (fun j => bI (mfp z (8 * a + j))) (b + 1))), (7, .int (nI a)), (0, .ref (ad 117)), (1, .ref (ad 135)), (2, .ref (ad 136)), (3, .ref (ad 137)), (4, .ref (ad 138)), (5, .ref (ad 139))] dL_agree_102 (j := 2) rfl (inc_n b 1) (by decide) rfl ?_
                      refine r_goto C 20 dL_agree_105 (by decide) ?_
                      refine r_lv (lv2 := [(9, .int (nI (b + 1))), (6, .int (sI (fun i => sI (fun j => bI (mfp z (8 * i + j))) n) a + sI (fun j => bI (mfp z (8 * a + j))) (b + 1))), (8, .int (sI (fun j => bI (e a j)) (b + 1))), (7, .int (nI a)), (0, .ref (ad 117)), (1, .ref (ad 135)), (2, .ref (ad 136)), (3, .ref (ad 137)), (4, .ref (ad 138)), (5, .ref (ad 139))]) [0, 3, 1, 4, 5, 6, 7, 8, 9, 10] rfl ?_
                      exact ih_b (b + 1) (by omega) (by omega)
                    ·
                      refine r_aload C dL_agree_85 9 rfl ?_
                      refine r_iload C dL_agree_87 4 rfl ?_
                      refine r_aload C dL_agree_89 9 rfl ?_
                      refine r_iload C dL_agree_91 2 rfl ?_
                      refine r_pcallS_i (nA := 4) C (Nat.le_of_ble_eq_true rfl) [.ref (ad 138), .int (nI a), .ref (ad 138), .int (nI b)] (c_L_prod_ll l D cs ad M3  a (by omega) b (by omega)) (tt_S ml_L_8 st_L_product in_L co_L_product) ⟨rfl, rfl⟩ ⟨rfl, by decide, by decide, by decide⟩ ⟨Nat.le_of_ble_eq_true rfl, Nat.le_of_ble_eq_true rfl⟩ rfl rfl (Nat.le_of_ble_eq_true rfl) dL_agree_93 ?_
                      refine r_topi (w := (dotz z (18 + 4 * a) (18 + 4 * b))) (pL_ll tM3 (by omega) (by omega)) ?_
                      refine r_if_eq C 102 dL_agree_96 (by decide) (fun h96 => ?_) (fun h96 => ?_)
                      ·
                        have hbd : sI (fun i => sI (fun j => bI (mfp z (8 * i + j))) n) a + sI (fun j => bI (mfp z (8 * a + j))) b = sI (fun i => sI (fun j => bI (mfp z (8 * i + j))) n) a + (sI (fun j => bI (mfp z (8 * a + j))) b + bI (mfp z (8 * a + b))) := bad_n (mf_off hn8 he (by omega) (by omega) (Or.inr h96))
                        refine r_lve (lv2 := [(8, .int ((sI (fun j => bI (e a j)) b) + (bI (e a b)))), (10, .int (bI (e a b))), (9, .int (nI b)), (6, .int (sI (fun i => sI (fun j => bI (mfp z (8 * i + j))) n) a + sI (fun j => bI (mfp z (8 * a + j))) (b + 1))), (7, .int (nI a)), (0, .ref (ad 117)), (1, .ref (ad 135)), (2, .ref (ad 136)), (3, .ref (ad 137)), (4, .ref (ad 138)), (5, .ref (ad 139))]) (by first | (rw [hbd]; rfl) | exact congrArg (fun x => (6, Value.int x) :: _) hbd) ?_
                        refine r_iinc C (nI (b + 1)) [(9, .int (nI (b + 1))), (8, .int ((sI (fun j => bI (e a j)) b) + (bI (e a b)))), (10, .int (bI (e a b))), (6, .int (sI (fun i => sI (fun j => bI (mfp z (8 * i + j))) n) a + sI (fun j => bI (mfp z (8 * a + j))) (b + 1))), (7, .int (nI a)), (0, .ref (ad 117)), (1, .ref (ad 135)), (2, .ref (ad 136)), (3, .ref (ad 137)), (4, .ref (ad 138)), (5, .ref (ad 139))] dL_agree_102 (j := 2) rfl (inc_n b 1) (by decide) rfl ?_
                        refine r_goto C 20 dL_agree_105 (by decide) ?_
                        refine r_lv (lv2 := [(9, .int (nI (b + 1))), (6, .int (sI (fun i => sI (fun j => bI (mfp z (8 * i + j))) n) a + sI (fun j => bI (mfp z (8 * a + j))) (b + 1))), (8, .int (sI (fun j => bI (e a j)) (b + 1))), (7, .int (nI a)), (0, .ref (ad 117)), (1, .ref (ad 135)), (2, .ref (ad 136)), (3, .ref (ad 137)), (4, .ref (ad 138)), (5, .ref (ad 139))]) [0, 3, 1, 4, 5, 6, 7, 8, 9, 10] rfl ?_
                        exact ih_b (b + 1) (by omega) (by omega)
                      ·
                        refine r_iinc C (((sI (fun i => sI (fun j => bI (mfp z (8 * i + j))) n) a + sI (fun j => bI (mfp z (8 * a + j))) b) + (1))) [(6, .int ((sI (fun i => sI (fun j => bI (mfp z (8 * i + j))) n) a + sI (fun j => bI (mfp z (8 * a + j))) b) + (1))), (8, .int ((sI (fun j => bI (e a j)) b) + (bI (e a b)))), (10, .int (bI (e a b))), (9, .int (nI b)), (7, .int (nI a)), (0, .ref (ad 117)), (1, .ref (ad 135)), (2, .ref (ad 136)), (3, .ref (ad 137)), (4, .ref (ad 138)), (5, .ref (ad 139))] dL_agree_99 (j := 3) rfl rfl (by decide) rfl ?_
                        have hbd : (sI (fun i => sI (fun j => bI (mfp z (8 * i + j))) n) a + sI (fun j => bI (mfp z (8 * a + j))) b) + 1 = sI (fun i => sI (fun j => bI (mfp z (8 * i + j))) n) a + (sI (fun j => bI (mfp z (8 * a + j))) b + bI (mfp z (8 * a + b))) := bad_y (mf_on hn8 he (by omega) (by omega) (by omega) (b1_t h82) h96)
                        refine r_lve (lv2 := [(6, .int (sI (fun i => sI (fun j => bI (mfp z (8 * i + j))) n) a + sI (fun j => bI (mfp z (8 * a + j))) (b + 1))), (8, .int ((sI (fun j => bI (e a j)) b) + (bI (e a b)))), (10, .int (bI (e a b))), (9, .int (nI b)), (7, .int (nI a)), (0, .ref (ad 117)), (1, .ref (ad 135)), (2, .ref (ad 136)), (3, .ref (ad 137)), (4, .ref (ad 138)), (5, .ref (ad 139))]) (by first | (rw [hbd]; rfl) | exact congrArg (fun x => (6, Value.int x) :: _) hbd) ?_
                        refine r_iinc C (nI (b + 1)) [(9, .int (nI (b + 1))), (6, .int (sI (fun i => sI (fun j => bI (mfp z (8 * i + j))) n) a + sI (fun j => bI (mfp z (8 * a + j))) (b + 1))), (8, .int ((sI (fun j => bI (e a j)) b) + (bI (e a b)))), (10, .int (bI (e a b))), (7, .int (nI a)), (0, .ref (ad 117)), (1, .ref (ad 135)), (2, .ref (ad 136)), (3, .ref (ad 137)), (4, .ref (ad 138)), (5, .ref (ad 139))] dL_agree_102 (j := 3) rfl (inc_n b 1) (by decide) rfl ?_
                        refine r_goto C 20 dL_agree_105 (by decide) ?_
                        refine r_lv (lv2 := [(9, .int (nI (b + 1))), (6, .int (sI (fun i => sI (fun j => bI (mfp z (8 * i + j))) n) a + sI (fun j => bI (mfp z (8 * a + j))) (b + 1))), (8, .int (sI (fun j => bI (e a j)) (b + 1))), (7, .int (nI a)), (0, .ref (ad 117)), (1, .ref (ad 135)), (2, .ref (ad 136)), (3, .ref (ad 137)), (4, .ref (ad 138)), (5, .ref (ad 139))]) [0, 1, 2, 4, 5, 6, 7, 8, 9, 10] rfl ?_
                        exact ih_b (b + 1) (by omega) (by omega)
                · exact absurd rfl h67
        refine r_lv (lv2 := [(9, .int (nI 0)), (6, .int (sI (fun i => sI (fun j => bI (mfp z (8 * i + j))) n) a + sI (fun j => bI (mfp z (8 * a + j))) 0)), (8, .int (sI (fun j => bI (e a j)) 0)), (7, .int (nI a)), (0, .ref (ad 117)), (1, .ref (ad 135)), (2, .ref (ad 136)), (3, .ref (ad 137)), (4, .ref (ad 138)), (5, .ref (ad 139))]) [0, 3, 1, 2, 4, 5, 6, 7, 8, 9] rfl ?_
        exact Lq (n + 1) 0 (by omega) (by omega)
  refine r_lv (lv2 := [(7, .int (nI 0)), (6, .int (sI (fun i => sI (fun j => bI (mfp z (8 * i + j))) n) 0)), (0, .ref (ad 117)), (1, .ref (ad 135)), (2, .ref (ad 136)), (3, .ref (ad 137)), (4, .ref (ad 138)), (5, .ref (ad 139))]) [0, 1, 2, 3, 4, 5, 6, 7] rfl ?_
  exact Lp (n + 1) 0 _ (by omega) (by omega) kM
