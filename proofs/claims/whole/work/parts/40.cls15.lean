/-! ===== the class: hashes (written by wip/whole/gen/cls15.py) ===== -/
theorem hsC_y {c : Nat → Bool} {v : Nat → Int64} {h : Int64} {k : Nat} (hc : c k = true) : 31 * hsC c v h k + v k = hsC c v h (k + 1) := (if_pos hc).symm
theorem hsC_n {c : Nat → Bool} {v : Nat → Int64} {h : Int64} {k : Nat} (hc : c k = false) : hsC c v h (k + 1) = hsC c v h k := if_neg (by rw [hc]; decide)
theorem hsV_gap {v : Nat → Int64} {h : Int64} : hsC cV v h 6 = hsC cV v h 10 := by rw [hsC_n (k := 9) rfl, hsC_n (k := 8) rfl, hsC_n (k := 7) rfl, hsC_n (k := 6) rfl]
theorem hsB_gap {v : Nat → Int64} {h : Int64} : hsC cB v h 2 = hsC cB v h 10 := by rw [hsC_n (k := 9) rfl, hsC_n (k := 8) rfl, hsC_n (k := 7) rfl, hsC_n (k := 6) rfl, hsC_n (k := 5) rfl, hsC_n (k := 4) rfl, hsC_n (k := 3) rfl, hsC_n (k := 2) rfl]
theorem cV_lo {w : Nat} (h : w < 6) : cV w = true := by unfold cV; simp [h]
theorem cV_hi {w : Nat} (h : 10 ≤ w) : cV w = true := by unfold cV; simp [show 9 < w by omega]
theorem cB_hi {w : Nat} (h : 10 ≤ w) : cB w = true := by unfold cB; simp [show 9 < w by omega]
theorem hsC_cg {c : Nat → Bool} {v w : Nat → Int64} {h : Int64} : ∀ {k : Nat}, (∀ j, j < k → v j = w j) → hsC c v h k = hsC c w h k
  | 0, _ => rfl
  | k + 1, e => by
    unfold hsC
    rw [hsC_cg (k := k) (fun j hj => e j (by omega)), e k (by omega)]
theorem tl_p {M : Mm} {b : Nat} {z : Nat → Int32} {n : Nat} {wt U S : Nat → Nat} {H p : Nat} (h : tlP M b z n wt U S H) : (if p = 0 then M.2 b 1 else if p = 1 then M.2 b 2 else (M.1 b 3).toInt64) = bdz z n wt U S H p := by
  unfold bdz
  by_cases hr : rsz z n = nI 0
  · rw [if_pos hr]
    obtain ⟨h1, h2, h3, h4⟩ := h.1 hr
    rw [h2, h3, h4]
    rfl
  · rw [if_neg hr]
    obtain ⟨h1, h2, h3, h4⟩ := h.2 hr
    rw [h2, h3, h4]
    split
    · rfl
    · split <;> rfl
set_option maxRecDepth 100000 in
set_option maxHeartbeats 4000000 in
theorem c_X7_mixVertices (l : Launch) (D : va_G) (cs : Nat → ClassId) (ad : Nat → Nat) (M : Mm) (z : Nat → Int32) (n d : Nat) (hg : gv M 0 (gH 0) z n d) (hn8 : n ≤ 8) (hm : gm z n) (mk wt9 : Nat → Nat) (hk : gk z n mk) (hw9 : gw z n wt9) (hsy : gs z n) (hcol : ∀ j, j < n → M.1 126 j = crs z n j) (hcq : cqV M z n) (h0 : Int64) : ∀ sz : Nat, Met l yX7_mixVertices (.code yX7_mixVertices cX7_mixVertices 7 (some .long) :: TT) { frames := 2, cells := 0, slots := 0, locals := 45 } (va_Pc [.ref (ad 117), .long h0] (fun U9 => U9.heap.size = sz ∧ wB D cs ad (fA ad sz) M U9)) (va_Ql (fun r M2 => r = mvs z n h0 n ∧ M2 = M) (wB D cs ad (fA ad sz)) (fA ad sz)) 0 0 (fA ad sz) := by
  refine st_L (by decide) (Nat.le_of_ble_eq_true rfl) (fun κ C E => ?_)
  refine r_lv (lv2 := [(0, .ref (ad 117)), (1, .long h0)]) [0, 1] rfl ?_
  refine r_lload_n C dX7_mixVertices_0 rfl 1 rfl ?_
  refine r_lstore_n C [(3, .long h0), (0, .ref (ad 117)), (1, .long h0)] dX7_mixVertices_1 rfl (by decide) rfl ?_
  refine r_iconst C (nI 0) dX7_mixVertices_2 (by decide) ?_
  refine r_istore C [(5, .int (nI 0)), (3, .long h0), (0, .ref (ad 117)), (1, .long h0)] dX7_mixVertices_3 (by decide) rfl ?_
  have Lp : ∀ (f_v v : Nat), n + 1 ≤ v + f_v → v ≤ n → VV l D cs ad 7 κ 0 M 5 [(5, .int (nI v)), (3, .long (mvs z n h0 v)), (0, .ref (ad 117)), (1, .long h0)] [] := by
    intro f_v
    induction f_v with
    | zero => intro v hk1_v hk2_v; exact absurd hk1_v (by omega)
    | succ f_v ih_v =>
      intro v hk1_v hk2_v
      refine r_iload C dX7_mixVertices_5 0 rfl ?_
      refine r_aload_n C dX7_mixVertices_7 rfl 2 rfl ?_
      refine r_get C (Cn := RX7) (T := TX7) (N := 10) (id := 117) (by decide) inw_X7 rfl rfl 0 (by decide) rfl fl_X7_12 rfl dX7_mixVertices_8 ?_
      refine r_get C (Cn := RX4) (T := TX4) (N := 6) (id := (gO 0)) (by simp only [gO, gN, gW, gL, gR, gH] <;> omega) inw_X4 (wF_O cs ad (by decide) _ _) rfl 0 (by decide) rfl fl_X7_77 rfl dX7_mixVertices_11 ?_
      refine r_topi (w := nI n) hg.1 ?_
      refine r_icmpN_ge C 128 dX7_mixVertices_14 (by decide) (by omega) (by omega) (fun h14 => ?_) (fun h14 => ?_)
      ·
        have hk9 : n = v := by omega
        subst hk9
        refine r_lload_n C dX7_mixVertices_128 rfl 1 rfl ?_
        exact E 0 _ _ _ _ (Nat.le_of_ble_eq_true rfl) dX7_mixVertices_129 (⟨rfl, rfl⟩)
      ·
        refine r_iconst C (nI 0) dX7_mixVertices_17 (by decide) ?_
        refine r_istore C [(6, .int (nI 0)), (5, .int (nI v)), (3, .long (mvs z n h0 v)), (0, .ref (ad 117)), (1, .long h0)] dX7_mixVertices_18 (by decide) rfl ?_
        have Lw : ∀ (f_w w : Nat), 6 + 1 ≤ w + f_w → w ≤ 6 → VV l D cs ad 7 κ 0 M 20 [(6, .int (nI w)), (3, .long (hsC cV (fun w => (vnz z n v w).toInt64) (mvs z n h0 v) w)), (0, .ref (ad 117)), (1, .long h0), (5, .int (nI v))] [] := by
          intro f_w
          induction f_w with
          | zero => intro w hk1_w hk2_w; exact absurd hk1_w (by omega)
          | succ f_w ih_w =>
            intro w hk1_w hk2_w
            refine r_iload C dX7_mixVertices_20 0 rfl ?_
            refine r_iconst C (nI 5) dX7_mixVertices_22 (by decide) ?_
            refine r_icmpN_gt C 46 dX7_mixVertices_23 (by decide) (by omega) (by omega) (fun h23 => ?_) (fun h23 => ?_)
            ·
              have hk9 : 6 = w := by omega
              subst hk9
              refine r_lve (lv2 := [(6, .int (nI 6)), (3, .long (hsC cV (fun w => (vnz z n v w).toInt64) (mvs z n h0 v) 10)), (0, .ref (ad 117)), (1, .long h0), (5, .int (nI v))]) (by rw [hsV_gap]) ?_
              refine r_bipush C (nI 10) dX7_mixVertices_46 (by decide) ?_
              refine r_istore C [(6, .int (nI 10)), (3, .long (hsC cV (fun w => (vnz z n v w).toInt64) (mvs z n h0 v) 10)), (0, .ref (ad 117)), (1, .long h0), (5, .int (nI v))] dX7_mixVertices_48 (by decide) rfl ?_
              have Lx : ∀ (f_w w : Nat), 14 + 1 ≤ w + f_w → w ≤ 14 → 10 ≤ w → VV l D cs ad 7 κ 0 M 50 [(6, .int (nI w)), (3, .long (hsC cV (fun w => (vnz z n v w).toInt64) (mvs z n h0 v) w)), (0, .ref (ad 117)), (1, .long h0), (5, .int (nI v))] [] := by
                intro f_w
                induction f_w with
                | zero => intro w hk1_w hk2_w hI_w; exact absurd hk1_w (by omega)
                | succ f_w ih_w =>
                  intro w hk1_w hk2_w hI_w
                  refine r_iload C dX7_mixVertices_50 0 rfl ?_
                  refine r_bipush C (nI 13) dX7_mixVertices_52 (by decide) ?_
                  refine r_icmpN_gt C 77 dX7_mixVertices_54 (by decide) (by omega) (by omega) (fun h54 => ?_) (fun h54 => ?_)
                  ·
                    have hk9 : 14 = w := by omega
                    subst hk9
                    refine r_iconst C (nI 0) dX7_mixVertices_77 (by decide) ?_
                    refine r_istore C [(6, .int (nI 0)), (3, .long (hsC cV (fun w => (vnz z n v w).toInt64) (mvs z n h0 v) 14)), (0, .ref (ad 117)), (1, .long h0), (5, .int (nI v))] dX7_mixVertices_78 (by decide) rfl ?_
                    have Lo : ∀ (f_o o : Nat), n + 1 ≤ o + f_o → o ≤ n → VV l D cs ad 7 κ 0 M 80 [(6, .int (nI o)), (3, .long (hsC cT (fun o => if bt (z (10 + v)) o = true then 1 else 0) (hsC cV (fun w => (vnz z n v w).toInt64) (mvs z n h0 v) 14) o)), (0, .ref (ad 117)), (1, .long h0), (5, .int (nI v))] [] := by
                      intro f_o
                      induction f_o with
                      | zero => intro o hk1_o hk2_o; exact absurd hk1_o (by omega)
                      | succ f_o ih_o =>
                        intro o hk1_o hk2_o
                        refine r_iload C dX7_mixVertices_80 0 rfl ?_
                        refine r_aload_n C dX7_mixVertices_82 rfl 2 rfl ?_
                        refine r_get C (Cn := RX7) (T := TX7) (N := 10) (id := 117) (by decide) inw_X7 rfl rfl 0 (by decide) rfl fl_X7_12 rfl dX7_mixVertices_83 ?_
                        refine r_get C (Cn := RX4) (T := TX4) (N := 6) (id := (gO 0)) (by simp only [gO, gN, gW, gL, gR, gH] <;> omega) inw_X4 (wF_O cs ad (by decide) _ _) rfl 0 (by decide) rfl fl_X7_77 rfl dX7_mixVertices_86 ?_
                        refine r_topi (w := nI n) hg.1 ?_
                        refine r_icmpN_ge C 122 dX7_mixVertices_89 (by decide) (by omega) (by omega) (fun h89 => ?_) (fun h89 => ?_)
                        ·
                          have hk9 : n = o := by omega
                          subst hk9
                          refine r_iinc C (nI (v + 1)) [(5, .int (nI (v + 1))), (6, .int (nI n)), (3, .long (hsC cT (fun o => if bt (z (10 + v)) o = true then 1 else 0) (hsC cV (fun w => (vnz z n v w).toInt64) (mvs z n h0 v) 14) n)), (0, .ref (ad 117)), (1, .long h0)] dX7_mixVertices_122 (j := 4) rfl (inc_n v 1) (by decide) rfl ?_
                          refine r_goto C 5 dX7_mixVertices_125 (by decide) ?_
                          refine r_lv (lv2 := [(5, .int (nI (v + 1))), (3, .long (mvs z n h0 (v + 1))), (0, .ref (ad 117)), (1, .long h0)]) [0, 2, 3, 4] rfl ?_
                          exact ih_v (v + 1) (by omega) (by omega)
                        ·
                          refine r_lload_n C dX7_mixVertices_92 rfl 1 rfl ?_
                          refine r_aload_n C dX7_mixVertices_93 rfl 2 rfl ?_
                          refine r_get C (Cn := RX7) (T := TX7) (N := 10) (id := 117) (by decide) inw_X7 rfl rfl 0 (by decide) rfl fl_X7_12 rfl dX7_mixVertices_94 ?_
                          refine r_iload C dX7_mixVertices_97 4 rfl ?_
                          refine r_iload C dX7_mixVertices_99 0 rfl ?_
                          refine r_pcallV_i (nA := 2) C (Nat.le_of_ble_eq_true rfl) [.int (nI v), .int (nI o)] (c_X4_areJoined l D cs ad M 0  (by decide) (gH 0) z n d hg hn8 hm v o (by omega) (by omega)) (tt_V ml_X7_228 im_X4_areJoined se_X4_areJoined in_X4 co_X4_areJoined) ⟨rfl, rfl⟩ ⟨rfl, by decide, by decide, by decide⟩ ⟨Nat.le_of_ble_eq_true rfl, Nat.le_of_ble_eq_true rfl⟩ (by simp only [gO, gN, gW, gL, gR, gH] <;> omega) (wF_O cs ad (by decide) _ _) rfl rfl rfl rfl (Nat.le_of_ble_eq_true rfl) dX7_mixVertices_101 ?_
                          refine r_ifB_eq C 111 dX7_mixVertices_104 (by decide) (fun h104 => ?_) (fun h104 => ?_)
                          ·
                            refine r_lconst C (lN 0) dX7_mixVertices_111 rfl ?_
                            refine r_topl (w := if bt (z (10 + v)) o = true then 1 else 0) (by rw [if_neg (by rw [h104]; decide)]; rfl) ?_
                            refine r_pcallS_l (nA := 2) C (Nat.le_of_ble_eq_true rfl) [.long (hsC cT (fun o => if bt (z (10 + v)) o = true then 1 else 0) (hsC cV (fun w => (vnz z n v w).toInt64) (mvs z n h0 v) 14) o), .long (if bt (z (10 + v)) o = true then 1 else 0)] (c_X7_mix l D cs ad M (hsC cT (fun o => if bt (z (10 + v)) o = true then 1 else 0) (hsC cV (fun w => (vnz z n v w).toInt64) (mvs z n h0 v) 14) o) (if bt (z (10 + v)) o = true then 1 else 0) ) (tt_S ml_X7_270 st_X7_mix in_X7 co_X7_mix) ⟨rfl, rfl⟩ ⟨rfl, by decide, by decide, by decide⟩ ⟨Nat.le_of_ble_eq_true rfl, Nat.le_of_ble_eq_true rfl⟩ rfl rfl (Nat.le_of_ble_eq_true rfl) dX7_mixVertices_112 ?_
                            refine r_topl (w := hsC cT (fun o => if bt (z (10 + v)) o = true then 1 else 0) (hsC cV (fun w => (vnz z n v w).toInt64) (mvs z n h0 v) 14) (o + 1)) (hsC_y (c := cT) (v := (fun o => if bt (z (10 + v)) o = true then 1 else 0)) rfl) ?_
                            refine r_lstore_n C [(3, .long (hsC cT (fun o => if bt (z (10 + v)) o = true then 1 else 0) (hsC cV (fun w => (vnz z n v w).toInt64) (mvs z n h0 v) 14) (o + 1))), (6, .int (nI o)), (0, .ref (ad 117)), (1, .long h0), (5, .int (nI v))] dX7_mixVertices_115 rfl (by decide) rfl ?_
                            refine r_iinc C (nI (o + 1)) [(6, .int (nI (o + 1))), (3, .long (hsC cT (fun o => if bt (z (10 + v)) o = true then 1 else 0) (hsC cV (fun w => (vnz z n v w).toInt64) (mvs z n h0 v) 14) (o + 1))), (0, .ref (ad 117)), (1, .long h0), (5, .int (nI v))] dX7_mixVertices_116 (j := 1) rfl (inc_n o 1) (by decide) rfl ?_
                            refine r_goto C 80 dX7_mixVertices_119 (by decide) ?_
                            refine r_lv (lv2 := [(6, .int (nI (o + 1))), (3, .long (hsC cT (fun o => if bt (z (10 + v)) o = true then 1 else 0) (hsC cV (fun w => (vnz z n v w).toInt64) (mvs z n h0 v) 14) (o + 1))), (0, .ref (ad 117)), (1, .long h0), (5, .int (nI v))]) [0, 1, 2, 3, 4] rfl ?_
                            exact ih_o (o + 1) (by omega) (by omega)
                          ·
                            refine r_lconst C (lN 1) dX7_mixVertices_107 rfl ?_
                            refine r_goto C 112 dX7_mixVertices_108 (by decide) ?_
                            refine r_topl (w := if bt (z (10 + v)) o = true then 1 else 0) (by rw [if_pos h104]; rfl) ?_
                            refine r_pcallS_l (nA := 2) C (Nat.le_of_ble_eq_true rfl) [.long (hsC cT (fun o => if bt (z (10 + v)) o = true then 1 else 0) (hsC cV (fun w => (vnz z n v w).toInt64) (mvs z n h0 v) 14) o), .long (if bt (z (10 + v)) o = true then 1 else 0)] (c_X7_mix l D cs ad M (hsC cT (fun o => if bt (z (10 + v)) o = true then 1 else 0) (hsC cV (fun w => (vnz z n v w).toInt64) (mvs z n h0 v) 14) o) (if bt (z (10 + v)) o = true then 1 else 0) ) (tt_S ml_X7_270 st_X7_mix in_X7 co_X7_mix) ⟨rfl, rfl⟩ ⟨rfl, by decide, by decide, by decide⟩ ⟨Nat.le_of_ble_eq_true rfl, Nat.le_of_ble_eq_true rfl⟩ rfl rfl (Nat.le_of_ble_eq_true rfl) dX7_mixVertices_112 ?_
                            refine r_topl (w := hsC cT (fun o => if bt (z (10 + v)) o = true then 1 else 0) (hsC cV (fun w => (vnz z n v w).toInt64) (mvs z n h0 v) 14) (o + 1)) (hsC_y (c := cT) (v := (fun o => if bt (z (10 + v)) o = true then 1 else 0)) rfl) ?_
                            refine r_lstore_n C [(3, .long (hsC cT (fun o => if bt (z (10 + v)) o = true then 1 else 0) (hsC cV (fun w => (vnz z n v w).toInt64) (mvs z n h0 v) 14) (o + 1))), (6, .int (nI o)), (0, .ref (ad 117)), (1, .long h0), (5, .int (nI v))] dX7_mixVertices_115 rfl (by decide) rfl ?_
                            refine r_iinc C (nI (o + 1)) [(6, .int (nI (o + 1))), (3, .long (hsC cT (fun o => if bt (z (10 + v)) o = true then 1 else 0) (hsC cV (fun w => (vnz z n v w).toInt64) (mvs z n h0 v) 14) (o + 1))), (0, .ref (ad 117)), (1, .long h0), (5, .int (nI v))] dX7_mixVertices_116 (j := 1) rfl (inc_n o 1) (by decide) rfl ?_
                            refine r_goto C 80 dX7_mixVertices_119 (by decide) ?_
                            refine r_lv (lv2 := [(6, .int (nI (o + 1))), (3, .long (hsC cT (fun o => if bt (z (10 + v)) o = true then 1 else 0) (hsC cV (fun w => (vnz z n v w).toInt64) (mvs z n h0 v) 14) (o + 1))), (0, .ref (ad 117)), (1, .long h0), (5, .int (nI v))]) [0, 1, 2, 3, 4] rfl ?_
                            exact ih_o (o + 1) (by omega) (by omega)
                    refine r_lv (lv2 := [(6, .int (nI 0)), (3, .long (hsC cT (fun o => if bt (z (10 + v)) o = true then 1 else 0) (hsC cV (fun w => (vnz z n v w).toInt64) (mvs z n h0 v) 14) 0)), (0, .ref (ad 117)), (1, .long h0), (5, .int (nI v))]) [0, 1, 2, 3, 4] rfl ?_
                    exact Lo (n + 1) 0 (by omega) (by omega)
                  ·
                    refine r_lload_n C dX7_mixVertices_57 rfl 1 rfl ?_
                    refine r_aload_n C dX7_mixVertices_58 rfl 2 rfl ?_
                    refine r_iload C dX7_mixVertices_59 4 rfl ?_
                    refine r_iload C dX7_mixVertices_61 0 rfl ?_
                    refine r_pcallV_i (nA := 2) C (Nat.le_of_ble_eq_true rfl) [.int (nI v), .int (nI w)] (c_X7_propertyOf l D cs ad M  z n d hg hn8 hm mk wt9 hk hw9 hsy hcol hcq v w (by omega) (by omega)) (tt_V ml_X7_237 im_X7_propertyOf se_X7_propertyOf in_X7 co_X7_propertyOf) ⟨rfl, rfl⟩ ⟨rfl, by decide, by decide, by decide⟩ ⟨Nat.le_of_ble_eq_true rfl, Nat.le_of_ble_eq_true rfl⟩ (by decide) rfl rfl rfl rfl rfl (Nat.le_of_ble_eq_true rfl) dX7_mixVertices_63 ?_
                    refine r_i2l C dX7_mixVertices_66 ?_
                    refine r_pcallS_l (nA := 2) C (Nat.le_of_ble_eq_true rfl) [.long (hsC cV (fun w => (vnz z n v w).toInt64) (mvs z n h0 v) w), .long ((vnz z n v w).toInt64)] (c_X7_mix l D cs ad M (hsC cV (fun w => (vnz z n v w).toInt64) (mvs z n h0 v) w) ((vnz z n v w).toInt64) ) (tt_S ml_X7_270 st_X7_mix in_X7 co_X7_mix) ⟨rfl, rfl⟩ ⟨rfl, by decide, by decide, by decide⟩ ⟨Nat.le_of_ble_eq_true rfl, Nat.le_of_ble_eq_true rfl⟩ rfl rfl (Nat.le_of_ble_eq_true rfl) dX7_mixVertices_67 ?_
                    refine r_topl (w := hsC cV (fun w => (vnz z n v w).toInt64) (mvs z n h0 v) (w + 1)) (hsC_y (c := cV) (v := (fun w => (vnz z n v w).toInt64)) (cV_hi (by omega))) ?_
                    refine r_lstore_n C [(3, .long (hsC cV (fun w => (vnz z n v w).toInt64) (mvs z n h0 v) (w + 1))), (6, .int (nI w)), (0, .ref (ad 117)), (1, .long h0), (5, .int (nI v))] dX7_mixVertices_70 rfl (by decide) rfl ?_
                    refine r_iinc C (nI (w + 1)) [(6, .int (nI (w + 1))), (3, .long (hsC cV (fun w => (vnz z n v w).toInt64) (mvs z n h0 v) (w + 1))), (0, .ref (ad 117)), (1, .long h0), (5, .int (nI v))] dX7_mixVertices_71 (j := 1) rfl (inc_n w 1) (by decide) rfl ?_
                    refine r_goto C 50 dX7_mixVertices_74 (by decide) ?_
                    refine r_lv (lv2 := [(6, .int (nI (w + 1))), (3, .long (hsC cV (fun w => (vnz z n v w).toInt64) (mvs z n h0 v) (w + 1))), (0, .ref (ad 117)), (1, .long h0), (5, .int (nI v))]) [0, 1, 2, 3, 4] rfl ?_
                    exact ih_w (w + 1) (by omega) (by omega) (by omega)
              refine r_lv (lv2 := [(6, .int (nI 10)), (3, .long (hsC cV (fun w => (vnz z n v w).toInt64) (mvs z n h0 v) 10)), (0, .ref (ad 117)), (1, .long h0), (5, .int (nI v))]) [0, 1, 2, 3, 4] rfl ?_
              exact Lx (14 + 1) 10 (by omega) (by omega) (by omega)
            ·
              refine r_lload_n C dX7_mixVertices_26 rfl 1 rfl ?_
              refine r_aload_n C dX7_mixVertices_27 rfl 2 rfl ?_
              refine r_iload C dX7_mixVertices_28 4 rfl ?_
              refine r_iload C dX7_mixVertices_30 0 rfl ?_
              refine r_pcallV_i (nA := 2) C (Nat.le_of_ble_eq_true rfl) [.int (nI v), .int (nI w)] (c_X7_propertyOf l D cs ad M  z n d hg hn8 hm mk wt9 hk hw9 hsy hcol hcq v w (by omega) (by omega)) (tt_V ml_X7_237 im_X7_propertyOf se_X7_propertyOf in_X7 co_X7_propertyOf) ⟨rfl, rfl⟩ ⟨rfl, by decide, by decide, by decide⟩ ⟨Nat.le_of_ble_eq_true rfl, Nat.le_of_ble_eq_true rfl⟩ (by decide) rfl rfl rfl rfl rfl (Nat.le_of_ble_eq_true rfl) dX7_mixVertices_32 ?_
              refine r_i2l C dX7_mixVertices_35 ?_
              refine r_pcallS_l (nA := 2) C (Nat.le_of_ble_eq_true rfl) [.long (hsC cV (fun w => (vnz z n v w).toInt64) (mvs z n h0 v) w), .long ((vnz z n v w).toInt64)] (c_X7_mix l D cs ad M (hsC cV (fun w => (vnz z n v w).toInt64) (mvs z n h0 v) w) ((vnz z n v w).toInt64) ) (tt_S ml_X7_270 st_X7_mix in_X7 co_X7_mix) ⟨rfl, rfl⟩ ⟨rfl, by decide, by decide, by decide⟩ ⟨Nat.le_of_ble_eq_true rfl, Nat.le_of_ble_eq_true rfl⟩ rfl rfl (Nat.le_of_ble_eq_true rfl) dX7_mixVertices_36 ?_
              refine r_topl (w := hsC cV (fun w => (vnz z n v w).toInt64) (mvs z n h0 v) (w + 1)) (hsC_y (c := cV) (v := (fun w => (vnz z n v w).toInt64)) (cV_lo (by omega))) ?_
              refine r_lstore_n C [(3, .long (hsC cV (fun w => (vnz z n v w).toInt64) (mvs z n h0 v) (w + 1))), (6, .int (nI w)), (0, .ref (ad 117)), (1, .long h0), (5, .int (nI v))] dX7_mixVertices_39 rfl (by decide) rfl ?_
              refine r_iinc C (nI (w + 1)) [(6, .int (nI (w + 1))), (3, .long (hsC cV (fun w => (vnz z n v w).toInt64) (mvs z n h0 v) (w + 1))), (0, .ref (ad 117)), (1, .long h0), (5, .int (nI v))] dX7_mixVertices_40 (j := 1) rfl (inc_n w 1) (by decide) rfl ?_
              refine r_goto C 20 dX7_mixVertices_43 (by decide) ?_
              refine r_lv (lv2 := [(6, .int (nI (w + 1))), (3, .long (hsC cV (fun w => (vnz z n v w).toInt64) (mvs z n h0 v) (w + 1))), (0, .ref (ad 117)), (1, .long h0), (5, .int (nI v))]) [0, 1, 2, 3, 4] rfl ?_
              exact ih_w (w + 1) (by omega) (by omega)
        refine r_lv (lv2 := [(6, .int (nI 0)), (3, .long (hsC cV (fun w => (vnz z n v w).toInt64) (mvs z n h0 v) 0)), (0, .ref (ad 117)), (1, .long h0), (5, .int (nI v))]) [0, 2, 3, 4, 1] rfl ?_
        exact Lw (6 + 1) 0 (by omega) (by omega)
  refine r_lv (lv2 := [(5, .int (nI 0)), (3, .long (mvs z n h0 0)), (0, .ref (ad 117)), (1, .long h0)]) [0, 1, 2, 3] rfl ?_
  exact Lp (n + 1) 0 (by omega) (by omega)
/-- what the search for a handle leaves, in the reference's words -/
def rnA (z : Nat → Int32) (n d b size : Nat) (wt U : Nat → Nat) (S : Nat → Nat → Nat) (H : Nat → Nat) (M M2 : Mm) : Prop := oH M M2 ∧ (0 < (lbF z n d b size wt U S H).2.1 → M2.1 132 0 = bI true ∧ M2.2 132 1 = lN (lbF z n d b size wt U S H).1 ∧ M2.2 132 2 = lN (lbF z n d b size wt U S H).2.1) ∧ (¬ 0 < (lbF z n d b size wt U S H).2.1 → M2.1 132 0 = bI false ∧ M2.2 132 1 = -1 ∧ M2.2 132 2 = -1) ∧ ∀ p, p < 4 → M2.1 131 p = bsD z d b size (lbF z n d b size wt U S H).2.2 p
theorem rn_A0 {z : Nat → Int32} {n d b size : Nat} {wt U : Nat → Nat} {S : Nat → Nat → Nat} {H : Nat → Nat} {M M2 : Mm} (h : rnP d b size ((0, 0, 0), 0) M M2) (hm : ¬ mfR z n = -1) : rnA z n d b size wt U S H M M2 := by
  have e : lbF z n d b size wt U S H = (0, 0, 0) := if_neg hm
  unfold rnA; rw [e]
  have h2 := h.2.1.1 rfl
  exact ⟨h.1, fun q => absurd q (Nat.lt_irrefl 0), fun _ => ⟨h2.1, h2.2.1, h2.2.2.1⟩, h.2.2⟩
theorem rn_A1 {z : Nat → Int32} {n d b size : Nat} {wt U : Nat → Nat} {S : Nat → Nat → Nat} {H : Nat → Nat} {M M2 : Mm} (hd4 : d ≤ 4) (hz0 : ∀ p, d ≤ p → p < 4 → z (50 + p) = nI 0) (hB : lbHyp z n d b size wt U S H) (hp : ∀ c, c < b ^ d → upR (hnR z d c b size d) n = -1 → hpos n wt U (H c)) (h : rnP d b size (hsS z n d b size wt U S H (b ^ d)) M M2) (hm : mfR z n = -1) : rnA z n d b size wt U S H M M2 := by
  have e : lbF z n d b size wt U S H = lbS z n d b size wt U S H (b ^ d) := if_pos hm
  unfold rnA; rw [e]
  obtain ⟨k1, k2⟩ := hs_lb hB hp (Nat.le_refl (b ^ d))
  have hbs : ∀ t p, p < 4 → bsE d b size t p = bsD z d b size t p := fun t p hp => by
    unfold bsE bsD; split
    · rfl
    · exact tr_hn hz0 hp
  rcases Nat.eq_zero_or_pos (hsS z n d b size wt U S H (b ^ d)).2 with ht | ht
  · rw [k1 ht]
    have h2 := h.2.1.1 ht
    refine ⟨h.1, fun q => absurd q (Nat.lt_irrefl 0), fun _ => ⟨h2.1, h2.2.1, h2.2.2.1⟩, fun p hp => ?_⟩
    rw [h.2.2 p hp, ht, hbs 0 p hp]
  · obtain ⟨e2, e3⟩ := k2 ht
    rw [e2] at e3 ⊢
    have h2 := h.2.1.2 ht
    exact ⟨h.1, fun _ => ⟨h2.1, h2.2.1, h2.2.2.1⟩, fun q => absurd e3 q, fun p hp => by rw [h.2.2 p hp]; exact hbs _ p hp⟩
theorem an_z {z : Nat → Int32} {n d b size : Nat} {wt U : Nat → Nat} {S : Nat → Nat → Nat} {H : Nat → Nat} {M M2 : Mm} (h : rnA z n d b size wt U S H M M2) {w : Nat} (hw : w ≤ 1 ∨ (10 ≤ w ∧ w ≤ 13)) : (if w = 0 then M2.2 132 1 else if w = 1 then M2.2 132 2 else (M2.1 131 (w - 10)).toInt64) = bhz z n d b size wt U S H w := by
  unfold bhz
  by_cases w0 : w = 0
  · subst w0
    rw [if_pos rfl, if_pos (show (0 : Nat) < 2 by decide)]
    by_cases q : 0 < (lbF z n d b size wt U S H).2.1
    · rw [if_pos q, if_pos rfl, (h.2.1 q).2.1]
    · rw [if_neg q, (h.2.2.1 q).2.1]
  · by_cases w1 : w = 1
    · subst w1
      rw [if_neg (show ¬ (1 : Nat) = 0 by decide), if_pos rfl, if_pos (show (1 : Nat) < 2 by decide)]
      by_cases q : 0 < (lbF z n d b size wt U S H).2.1
      · rw [if_pos q, if_neg (show ¬ (1 : Nat) = 0 by decide), (h.2.1 q).2.2]
      · rw [if_neg q, (h.2.2.1 q).2.2]
    · rw [if_neg w0, if_neg w1, if_neg (by omega), h.2.2.2 _ (by omega)]
theorem c_X5_runA (l : Launch) (D : va_G) (cs : Nat → ClassId) (ad : Nat → Nat) (M : Mm) (z : Nat → Int32) (n d : Nat) (hg : gv M 0 (gH 0) z n d) (hn8 : n ≤ 8) (hm : gm z n) (hd4 : d ≤ 4) (size bb : Nat) (hbb : 2 * size + 1 = bb) (hs1 : 1 ≤ size) (hs2 : size ≤ 2) (mk : Nat → Nat) (hk : gk z n mk) (hz0 : ∀ p, d ≤ p → p < 4 → z (50 + p) = nI 0) (wt U : Nat → Nat) (S : Nat → Nat → Nat) (H : Nat → Nat) (hBB : lbHyp z n d bb size wt U S H) (hpB : ∀ c, c < bb ^ d → upR (hnR z d c bb size d) n = -1 → hpos n wt U (H c)) : ∀ sz : Nat, Met l yX5_run (.code yX5_run cX5_run 5 none :: TT) { frames := 4, cells := 0, slots := 0, locals := 88 } (va_Pc [.ref (ad 130), .ref (ad (gO 0)), .int (nI size)] (fun U9 => U9.heap.size = sz ∧ wB D cs ad (fA ad sz) M U9 ∧ xX (fA ad sz) U9 U9.heap)) (va_Qv (fun M2 => rnA z n d bb size wt U S H M M2) (wB D cs ad (fA ad sz)) (fA ad sz)) 0 0 (fA ad sz) := by
  intro sz
  rcases mf_fu hn8 hk with ⟨h1, h2⟩ | ⟨a, b, ha, hb, h1, h2, h3⟩
  · exact metV (c_X5_run l D cs ad M z n d hg hn8 hm hd4 size bb hbb hs1 hs2 h1 hz0 wt U S H hBB sz) (fun M2 h => rn_A1 hd4 hz0 hBB hpB h h2)
  · exact metV (c_X5_runN l D cs ad M z n d hg hn8 hm hd4 size bb hbb hs1 hs2 (by rw [h1]; exact m1_ne (by omega)) sz) (fun M2 h => rn_A0 h (by rw [h3]; exact m1_ne (by omega)))
set_option maxRecDepth 100000 in
set_option maxHeartbeats 4000000 in
theorem c_X7_mixBounds (l : Launch) (D : va_G) (cs : Nat → ClassId) (ad : Nat → Nat) (M : Mm) (z : Nat → Int32) (n d : Nat) (hg : gv M 0 (gH 0) z n d) (hn8 : n ≤ 8) (hm : gm z n) (mk : Nat → Nat) (hk : gk z n mk) (hd4 : d ≤ 4) (hz0 : ∀ p, d ≤ p → p < 4 → z (50 + p) = nI 0) (wt U S : Nat → Nat) (H : Nat) (hBr : rsz z n = nI 0 → bnH z n wt U S H) (hpo : rsz z n = nI 0 → hpos n wt U H) (wt1 U1 : Nat → Nat) (S1 : Nat → Nat → Nat) (H1 : Nat → Nat) (hBB : lbHyp z n d 3 1 wt1 U1 S1 H1) (hpB : ∀ c, c < 3 ^ d → upR (hnR z d c 3 1 d) n = -1 → hpos n wt1 U1 (H1 c)) (h0 : Int64) : ∀ sz : Nat, Met l yX7_mixBounds (.code yX7_mixBounds cX7_mixBounds 6 (some .long) :: TT) { frames := 5, cells := 0, slots := 0, locals := 112 } (va_Pc [.ref (ad 117), .long h0] (fun U9 => U9.heap.size = sz ∧ wB D cs ad (fA ad sz) M U9 ∧ xX (fA ad sz) U9 U9.heap)) (va_Ql (fun r M2 => r = hsC cB (fun w => bhz z n d 3 1 wt1 U1 S1 H1 w) (hsC cT (fun w => (rnz z n w).toInt64) (hsC cT (fun p => bdz z n wt U S H p) h0 3) 3) 14 ∧ (∀ i, ¬ (129 ≤ i ∧ i ≤ 134) → M2.1 i = M.1 i ∧ M2.2 i = M.2 i)) (wB D cs ad (fA ad sz)) (fA ad sz)) 0 0 (fA ad sz) := by
  refine sn_L (by decide) (Nat.le_of_ble_eq_true rfl) (fun κ C hN E => ?_)
  refine r_lv (lv2 := [(0, .ref (ad 117)), (1, .long h0)]) [0, 1] rfl ?_
  refine r_lload_n C dX7_mixBounds_0 rfl 1 rfl ?_
  refine r_lstore_n C [(3, .long h0), (0, .ref (ad 117)), (1, .long h0)] dX7_mixBounds_1 rfl (by decide) rfl ?_
  refine r_aload_n C dX7_mixBounds_2 rfl 1 rfl ?_
  refine r_get C (Cn := RX7) (T := TX7) (N := 10) (id := 117) (by decide) inw_X7 rfl rfl 7 (by decide) rfl fl_X7_55 rfl dX7_mixBounds_3 ?_
  refine r_aload_n C dX7_mixBounds_6 rfl 1 rfl ?_
  refine r_get C (Cn := RX7) (T := TX7) (N := 10) (id := 117) (by decide) inw_X7 rfl rfl 0 (by decide) rfl fl_X7_12 rfl dX7_mixBounds_7 ?_
  refine r_ncallV_v (nA := 1) C hN (Nat.le_of_ble_eq_true rfl) [.ref (ad (gO 0))] (c_X0_tellA l D cs ad M  129 (by decide) (by decide) (fun _ _ => rfl) z n d hg hn8 hm mk hk wt U S H hBr hpo) (tt_V ml_X7_244 im_X0_tellOf se_X0_tellOf in_X0 co_X0_tellOf) ⟨rfl, rfl⟩ ⟨rfl, by decide, by decide, by decide⟩ ⟨Nat.le_of_ble_eq_true rfl, Nat.le_of_ble_eq_true rfl⟩ (by decide) rfl rfl rfl rfl rfl (Nat.le_of_ble_eq_true rfl) dX7_mixBounds_10 (fun Mu1 qu1 => ?_)
  have hg1 : gv Mu1 0 (gH 0) z n d := gv_k hg hn8 (fun i hi => qu1.1.1 i (by simp only [gH] at hi; omega))
  refine r_iconst C (nI 0) dX7_mixBounds_13 (by decide) ?_
  refine r_istore C [(5, .int (nI 0)), (3, .long h0), (0, .ref (ad 117)), (1, .long h0)] dX7_mixBounds_14 (by decide) rfl ?_
  have Lp : ∀ (f_p p : Nat), 3 + 1 ≤ p + f_p → p ≤ 3 → VV l D cs ad 6 κ 0 Mu1 16 [(5, .int (nI p)), (3, .long (hsC cT (fun p => bdz z n wt U S H p) h0 p)), (0, .ref (ad 117)), (1, .long h0)] [] := by
    intro f_p
    induction f_p with
    | zero => intro p hk1_p hk2_p; exact absurd hk1_p (by omega)
    | succ f_p ih_p =>
      intro p hk1_p hk2_p
      refine r_iload C dX7_mixBounds_16 0 rfl ?_
      refine r_iconst C (nI 2) dX7_mixBounds_18 (by decide) ?_
      refine r_icmpN_gt C 42 dX7_mixBounds_19 (by decide) (by omega) (by omega) (fun h19 => ?_) (fun h19 => ?_)
      ·
        have hk9 : 3 = p := by omega
        subst hk9
        refine r_iconst C (nI 0) dX7_mixBounds_42 (by decide) ?_
        refine r_istore C [(5, .int (nI 0)), (3, .long (hsC cT (fun p => bdz z n wt U S H p) h0 3)), (0, .ref (ad 117)), (1, .long h0)] dX7_mixBounds_43 (by decide) rfl ?_
        have Lw : ∀ (f_w w : Nat), 3 + 1 ≤ w + f_w → w ≤ 3 → VV l D cs ad 6 κ 0 Mu1 45 [(5, .int (nI w)), (3, .long (hsC cT (fun w => (rnz z n w).toInt64) (hsC cT (fun p => bdz z n wt U S H p) h0 3) w)), (0, .ref (ad 117)), (1, .long h0)] [] := by
          intro f_w
          induction f_w with
          | zero => intro w hk1_w hk2_w; exact absurd hk1_w (by omega)
          | succ f_w ih_w =>
            intro w hk1_w hk2_w
            refine r_iload C dX7_mixBounds_45 0 rfl ?_
            refine r_iconst C (nI 2) dX7_mixBounds_47 (by decide) ?_
            refine r_icmpN_gt C 69 dX7_mixBounds_48 (by decide) (by omega) (by omega) (fun h48 => ?_) (fun h48 => ?_)
            ·
              have hk9 : 3 = w := by omega
              subst hk9
              refine r_aload_n C dX7_mixBounds_69 rfl 2 rfl ?_
              refine r_get C (Cn := RX7) (T := TX7) (N := 10) (id := 117) (by decide) inw_X7 rfl rfl 8 (by decide) rfl fl_X7_62 rfl dX7_mixBounds_70 ?_
              refine r_aload_n C dX7_mixBounds_73 rfl 2 rfl ?_
              refine r_get C (Cn := RX7) (T := TX7) (N := 10) (id := 117) (by decide) inw_X7 rfl rfl 0 (by decide) rfl fl_X7_12 rfl dX7_mixBounds_74 ?_
              refine r_iconst C (nI 1) dX7_mixBounds_77 (by decide) ?_
              refine r_ncallV_v (nA := 2) C hN (Nat.le_of_ble_eq_true rfl) [.ref (ad (gO 0)), .int (nI 1)] (c_X5_runA l D cs ad Mu1  z n d hg1 hn8 hm hd4 1 3 (by decide) (by decide) (by decide) mk hk hz0 wt1 U1 S1 H1 hBB hpB) (tt_V ml_X7_167 im_X5_run se_X5_run in_X5 co_X5_run) ⟨rfl, rfl⟩ ⟨rfl, by decide, by decide, by decide⟩ ⟨Nat.le_of_ble_eq_true rfl, Nat.le_of_ble_eq_true rfl⟩ (by decide) rfl rfl rfl rfl rfl (Nat.le_of_ble_eq_true rfl) dX7_mixBounds_78 (fun Mu2 qu2 => ?_)
              refine r_lload_n C dX7_mixBounds_81 rfl 1 rfl ?_
              refine r_aload_n C dX7_mixBounds_82 rfl 2 rfl ?_
              refine r_get C (Cn := RX7) (T := TX7) (N := 10) (id := 117) (by decide) inw_X7 rfl rfl 8 (by decide) rfl fl_X7_62 rfl dX7_mixBounds_83 ?_
              refine r_iconst C (nI 0) dX7_mixBounds_86 (by decide) ?_
              refine r_pcallV_l (nA := 1) C (Nat.le_of_ble_eq_true rfl) [.int (nI 0)] (c_X5_answer l D cs ad Mu2  0 (by omega) _ _ _ rfl rfl rfl) (tt_V ml_X7_256 im_X5_answer se_X5_answer in_X5 co_X5_answer) ⟨rfl, rfl⟩ ⟨rfl, by decide, by decide, by decide⟩ ⟨Nat.le_of_ble_eq_true rfl, Nat.le_of_ble_eq_true rfl⟩ (by decide) rfl rfl rfl rfl rfl (Nat.le_of_ble_eq_true rfl) dX7_mixBounds_87 ?_
              refine r_topl (w := bhz z n d 3 1 wt1 U1 S1 H1 0) (an_z qu2 (by omega)) ?_
              refine r_pcallS_l (nA := 2) C (Nat.le_of_ble_eq_true rfl) [.long (hsC cT (fun w => (rnz z n w).toInt64) (hsC cT (fun p => bdz z n wt U S H p) h0 3) 3), .long (bhz z n d 3 1 wt1 U1 S1 H1 0)] (c_X7_mix l D cs ad Mu2 (hsC cT (fun w => (rnz z n w).toInt64) (hsC cT (fun p => bdz z n wt U S H p) h0 3) 3) (bhz z n d 3 1 wt1 U1 S1 H1 0) ) (tt_S ml_X7_270 st_X7_mix in_X7 co_X7_mix) ⟨rfl, rfl⟩ ⟨rfl, by decide, by decide, by decide⟩ ⟨Nat.le_of_ble_eq_true rfl, Nat.le_of_ble_eq_true rfl⟩ rfl rfl (Nat.le_of_ble_eq_true rfl) dX7_mixBounds_90 ?_
              refine r_topl (w := hsC cB (fun w => bhz z n d 3 1 wt1 U1 S1 H1 w) (hsC cT (fun w => (rnz z n w).toInt64) (hsC cT (fun p => bdz z n wt U S H p) h0 3) 3) 1) (hsC_y (c := cB) (v := (fun w => bhz z n d 3 1 wt1 U1 S1 H1 w)) (k := 0) rfl) ?_
              refine r_lstore_n C [(3, .long (hsC cB (fun w => bhz z n d 3 1 wt1 U1 S1 H1 w) (hsC cT (fun w => (rnz z n w).toInt64) (hsC cT (fun p => bdz z n wt U S H p) h0 3) 3) 1)), (5, .int (nI 3)), (0, .ref (ad 117)), (1, .long h0)] dX7_mixBounds_93 rfl (by decide) rfl ?_
              refine r_lload_n C dX7_mixBounds_94 rfl 0 rfl ?_
              refine r_aload_n C dX7_mixBounds_95 rfl 2 rfl ?_
              refine r_get C (Cn := RX7) (T := TX7) (N := 10) (id := 117) (by decide) inw_X7 rfl rfl 8 (by decide) rfl fl_X7_62 rfl dX7_mixBounds_96 ?_
              refine r_iconst C (nI 1) dX7_mixBounds_99 (by decide) ?_
              refine r_pcallV_l (nA := 1) C (Nat.le_of_ble_eq_true rfl) [.int (nI 1)] (c_X5_answer l D cs ad Mu2  1 (by omega) _ _ _ rfl rfl rfl) (tt_V ml_X7_256 im_X5_answer se_X5_answer in_X5 co_X5_answer) ⟨rfl, rfl⟩ ⟨rfl, by decide, by decide, by decide⟩ ⟨Nat.le_of_ble_eq_true rfl, Nat.le_of_ble_eq_true rfl⟩ (by decide) rfl rfl rfl rfl rfl (Nat.le_of_ble_eq_true rfl) dX7_mixBounds_100 ?_
              refine r_topl (w := bhz z n d 3 1 wt1 U1 S1 H1 1) (an_z qu2 (by omega)) ?_
              refine r_pcallS_l (nA := 2) C (Nat.le_of_ble_eq_true rfl) [.long (hsC cB (fun w => bhz z n d 3 1 wt1 U1 S1 H1 w) (hsC cT (fun w => (rnz z n w).toInt64) (hsC cT (fun p => bdz z n wt U S H p) h0 3) 3) 1), .long (bhz z n d 3 1 wt1 U1 S1 H1 1)] (c_X7_mix l D cs ad Mu2 (hsC cB (fun w => bhz z n d 3 1 wt1 U1 S1 H1 w) (hsC cT (fun w => (rnz z n w).toInt64) (hsC cT (fun p => bdz z n wt U S H p) h0 3) 3) 1) (bhz z n d 3 1 wt1 U1 S1 H1 1) ) (tt_S ml_X7_270 st_X7_mix in_X7 co_X7_mix) ⟨rfl, rfl⟩ ⟨rfl, by decide, by decide, by decide⟩ ⟨Nat.le_of_ble_eq_true rfl, Nat.le_of_ble_eq_true rfl⟩ rfl rfl (Nat.le_of_ble_eq_true rfl) dX7_mixBounds_103 ?_
              refine r_topl (w := hsC cB (fun w => bhz z n d 3 1 wt1 U1 S1 H1 w) (hsC cT (fun w => (rnz z n w).toInt64) (hsC cT (fun p => bdz z n wt U S H p) h0 3) 3) 10) ((hsC_y (c := cB) (v := (fun w => bhz z n d 3 1 wt1 U1 S1 H1 w)) (k := 1) rfl).trans hsB_gap) ?_
              refine r_lstore_n C [(3, .long (hsC cB (fun w => bhz z n d 3 1 wt1 U1 S1 H1 w) (hsC cT (fun w => (rnz z n w).toInt64) (hsC cT (fun p => bdz z n wt U S H p) h0 3) 3) 10)), (5, .int (nI 3)), (0, .ref (ad 117)), (1, .long h0)] dX7_mixBounds_106 rfl (by decide) rfl ?_
              refine r_bipush C (nI 10) dX7_mixBounds_107 (by decide) ?_
              refine r_istore C [(5, .int (nI 10)), (3, .long (hsC cB (fun w => bhz z n d 3 1 wt1 U1 S1 H1 w) (hsC cT (fun w => (rnz z n w).toInt64) (hsC cT (fun p => bdz z n wt U S H p) h0 3) 3) 10)), (0, .ref (ad 117)), (1, .long h0)] dX7_mixBounds_109 (by decide) rfl ?_
              have Lx : ∀ (f_w w : Nat), 14 + 1 ≤ w + f_w → w ≤ 14 → 10 ≤ w → VV l D cs ad 6 κ 0 Mu2 111 [(5, .int (nI w)), (3, .long (hsC cB (fun w => bhz z n d 3 1 wt1 U1 S1 H1 w) (hsC cT (fun w => (rnz z n w).toInt64) (hsC cT (fun p => bdz z n wt U S H p) h0 3) 3) w)), (0, .ref (ad 117)), (1, .long h0)] [] := by
                intro f_w
                induction f_w with
                | zero => intro w hk1_w hk2_w hI_w; exact absurd hk1_w (by omega)
                | succ f_w ih_w =>
                  intro w hk1_w hk2_w hI_w
                  refine r_iload C dX7_mixBounds_111 0 rfl ?_
                  refine r_bipush C (nI 13) dX7_mixBounds_113 (by decide) ?_
                  refine r_icmpN_gt C 138 dX7_mixBounds_115 (by decide) (by omega) (by omega) (fun h115 => ?_) (fun h115 => ?_)
                  ·
                    have hk9 : 14 = w := by omega
                    subst hk9
                    refine r_lload_n C dX7_mixBounds_138 rfl 1 rfl ?_
                    exact E 0 _ _ _ _ (Nat.le_of_ble_eq_true rfl) dX7_mixBounds_139 (⟨rfl, fun i hi => ⟨((qu2.1 i (by omega)).1).trans (qu1.1.1 i (by omega)), ((qu2.1 i (by omega)).2).trans (qu1.1.2 i (by omega))⟩⟩)
                  ·
                    refine r_lload_n C dX7_mixBounds_118 rfl 1 rfl ?_
                    refine r_aload_n C dX7_mixBounds_119 rfl 2 rfl ?_
                    refine r_get C (Cn := RX7) (T := TX7) (N := 10) (id := 117) (by decide) inw_X7 rfl rfl 8 (by decide) rfl fl_X7_62 rfl dX7_mixBounds_120 ?_
                    refine r_iload C dX7_mixBounds_123 0 rfl ?_
                    refine r_pcallV_l (nA := 1) C (Nat.le_of_ble_eq_true rfl) [.int (nI w)] (c_X5_answer l D cs ad Mu2  w (by omega) _ _ _ rfl rfl rfl) (tt_V ml_X7_256 im_X5_answer se_X5_answer in_X5 co_X5_answer) ⟨rfl, rfl⟩ ⟨rfl, by decide, by decide, by decide⟩ ⟨Nat.le_of_ble_eq_true rfl, Nat.le_of_ble_eq_true rfl⟩ (by decide) rfl rfl rfl rfl rfl (Nat.le_of_ble_eq_true rfl) dX7_mixBounds_125 ?_
                    refine r_topl (w := bhz z n d 3 1 wt1 U1 S1 H1 w) (an_z qu2 (by omega)) ?_
                    refine r_pcallS_l (nA := 2) C (Nat.le_of_ble_eq_true rfl) [.long (hsC cB (fun w => bhz z n d 3 1 wt1 U1 S1 H1 w) (hsC cT (fun w => (rnz z n w).toInt64) (hsC cT (fun p => bdz z n wt U S H p) h0 3) 3) w), .long (bhz z n d 3 1 wt1 U1 S1 H1 w)] (c_X7_mix l D cs ad Mu2 (hsC cB (fun w => bhz z n d 3 1 wt1 U1 S1 H1 w) (hsC cT (fun w => (rnz z n w).toInt64) (hsC cT (fun p => bdz z n wt U S H p) h0 3) 3) w) (bhz z n d 3 1 wt1 U1 S1 H1 w) ) (tt_S ml_X7_270 st_X7_mix in_X7 co_X7_mix) ⟨rfl, rfl⟩ ⟨rfl, by decide, by decide, by decide⟩ ⟨Nat.le_of_ble_eq_true rfl, Nat.le_of_ble_eq_true rfl⟩ rfl rfl (Nat.le_of_ble_eq_true rfl) dX7_mixBounds_128 ?_
                    refine r_topl (w := hsC cB (fun w => bhz z n d 3 1 wt1 U1 S1 H1 w) (hsC cT (fun w => (rnz z n w).toInt64) (hsC cT (fun p => bdz z n wt U S H p) h0 3) 3) (w + 1)) (hsC_y (c := cB) (v := (fun w => bhz z n d 3 1 wt1 U1 S1 H1 w)) (cB_hi (by omega))) ?_
                    refine r_lstore_n C [(3, .long (hsC cB (fun w => bhz z n d 3 1 wt1 U1 S1 H1 w) (hsC cT (fun w => (rnz z n w).toInt64) (hsC cT (fun p => bdz z n wt U S H p) h0 3) 3) (w + 1))), (5, .int (nI w)), (0, .ref (ad 117)), (1, .long h0)] dX7_mixBounds_131 rfl (by decide) rfl ?_
                    refine r_iinc C (nI (w + 1)) [(5, .int (nI (w + 1))), (3, .long (hsC cB (fun w => bhz z n d 3 1 wt1 U1 S1 H1 w) (hsC cT (fun w => (rnz z n w).toInt64) (hsC cT (fun p => bdz z n wt U S H p) h0 3) 3) (w + 1))), (0, .ref (ad 117)), (1, .long h0)] dX7_mixBounds_132 (j := 1) rfl (inc_n w 1) (by decide) rfl ?_
                    refine r_goto C 111 dX7_mixBounds_135 (by decide) ?_
                    refine r_lv (lv2 := [(5, .int (nI (w + 1))), (3, .long (hsC cB (fun w => bhz z n d 3 1 wt1 U1 S1 H1 w) (hsC cT (fun w => (rnz z n w).toInt64) (hsC cT (fun p => bdz z n wt U S H p) h0 3) 3) (w + 1))), (0, .ref (ad 117)), (1, .long h0)]) [0, 1, 2, 3] rfl ?_
                    exact ih_w (w + 1) (by omega) (by omega) (by omega)
              refine r_lv (lv2 := [(5, .int (nI 10)), (3, .long (hsC cB (fun w => bhz z n d 3 1 wt1 U1 S1 H1 w) (hsC cT (fun w => (rnz z n w).toInt64) (hsC cT (fun p => bdz z n wt U S H p) h0 3) 3) 10)), (0, .ref (ad 117)), (1, .long h0)]) [0, 1, 2, 3] rfl ?_
              exact Lx (14 + 1) 10 (by omega) (by omega) (by omega)
            ·
              refine r_lload_n C dX7_mixBounds_51 rfl 1 rfl ?_
              refine r_aload_n C dX7_mixBounds_52 rfl 2 rfl ?_
              refine r_iload C dX7_mixBounds_53 0 rfl ?_
              refine r_npcallV_i (nA := 1) C hN (Nat.le_of_ble_eq_true rfl) [.int (nI w)] (c_X7_whyNoBound l D cs ad Mu1  z n d hg1 hn8 hm mk hk w (by omega)) (tt_V ml_X7_251 im_X7_whyNoBound se_X7_whyNoBound in_X7 co_X7_whyNoBound) ⟨rfl, rfl⟩ ⟨rfl, by decide, by decide, by decide⟩ ⟨Nat.le_of_ble_eq_true rfl, Nat.le_of_ble_eq_true rfl⟩ (by decide) rfl rfl rfl rfl rfl (Nat.le_of_ble_eq_true rfl) dX7_mixBounds_55 ?_
              refine r_i2l C dX7_mixBounds_58 ?_
              refine r_pcallS_l (nA := 2) C (Nat.le_of_ble_eq_true rfl) [.long (hsC cT (fun w => (rnz z n w).toInt64) (hsC cT (fun p => bdz z n wt U S H p) h0 3) w), .long ((rnz z n w).toInt64)] (c_X7_mix l D cs ad Mu1 (hsC cT (fun w => (rnz z n w).toInt64) (hsC cT (fun p => bdz z n wt U S H p) h0 3) w) ((rnz z n w).toInt64) ) (tt_S ml_X7_270 st_X7_mix in_X7 co_X7_mix) ⟨rfl, rfl⟩ ⟨rfl, by decide, by decide, by decide⟩ ⟨Nat.le_of_ble_eq_true rfl, Nat.le_of_ble_eq_true rfl⟩ rfl rfl (Nat.le_of_ble_eq_true rfl) dX7_mixBounds_59 ?_
              refine r_topl (w := hsC cT (fun w => (rnz z n w).toInt64) (hsC cT (fun p => bdz z n wt U S H p) h0 3) (w + 1)) (hsC_y (c := cT) (v := (fun w => (rnz z n w).toInt64)) rfl) ?_
              refine r_lstore_n C [(3, .long (hsC cT (fun w => (rnz z n w).toInt64) (hsC cT (fun p => bdz z n wt U S H p) h0 3) (w + 1))), (5, .int (nI w)), (0, .ref (ad 117)), (1, .long h0)] dX7_mixBounds_62 rfl (by decide) rfl ?_
              refine r_iinc C (nI (w + 1)) [(5, .int (nI (w + 1))), (3, .long (hsC cT (fun w => (rnz z n w).toInt64) (hsC cT (fun p => bdz z n wt U S H p) h0 3) (w + 1))), (0, .ref (ad 117)), (1, .long h0)] dX7_mixBounds_63 (j := 1) rfl (inc_n w 1) (by decide) rfl ?_
              refine r_goto C 45 dX7_mixBounds_66 (by decide) ?_
              refine r_lv (lv2 := [(5, .int (nI (w + 1))), (3, .long (hsC cT (fun w => (rnz z n w).toInt64) (hsC cT (fun p => bdz z n wt U S H p) h0 3) (w + 1))), (0, .ref (ad 117)), (1, .long h0)]) [0, 1, 2, 3] rfl ?_
              exact ih_w (w + 1) (by omega) (by omega)
        refine r_lv (lv2 := [(5, .int (nI 0)), (3, .long (hsC cT (fun w => (rnz z n w).toInt64) (hsC cT (fun p => bdz z n wt U S H p) h0 3) 0)), (0, .ref (ad 117)), (1, .long h0)]) [0, 1, 2, 3] rfl ?_
        exact Lw (3 + 1) 0 (by omega) (by omega)
      ·
        refine r_lload_n C dX7_mixBounds_22 rfl 1 rfl ?_
        refine r_aload_n C dX7_mixBounds_23 rfl 2 rfl ?_
        refine r_get C (Cn := RX7) (T := TX7) (N := 10) (id := 117) (by decide) inw_X7 rfl rfl 7 (by decide) rfl fl_X7_55 rfl dX7_mixBounds_24 ?_
        refine r_iload C dX7_mixBounds_27 0 rfl ?_
        refine r_pcallV_l (nA := 1) C (Nat.le_of_ble_eq_true rfl) [.int (nI p)] (c_X0_partOf l D cs ad Mu1  129 (by decide) (fun _ _ => rfl) p (by omega) _ _ _ rfl rfl rfl) (tt_V ml_X7_247 im_X0_partOf se_X0_partOf in_X0 co_X0_partOf) ⟨rfl, rfl⟩ ⟨rfl, by decide, by decide, by decide⟩ ⟨Nat.le_of_ble_eq_true rfl, Nat.le_of_ble_eq_true rfl⟩ (by decide) rfl rfl rfl rfl rfl (Nat.le_of_ble_eq_true rfl) dX7_mixBounds_29 ?_
        refine r_topl (w := bdz z n wt U S H p) (tl_p qu1.2) ?_
        refine r_pcallS_l (nA := 2) C (Nat.le_of_ble_eq_true rfl) [.long (hsC cT (fun p => bdz z n wt U S H p) h0 p), .long (bdz z n wt U S H p)] (c_X7_mix l D cs ad Mu1 (hsC cT (fun p => bdz z n wt U S H p) h0 p) (bdz z n wt U S H p) ) (tt_S ml_X7_270 st_X7_mix in_X7 co_X7_mix) ⟨rfl, rfl⟩ ⟨rfl, by decide, by decide, by decide⟩ ⟨Nat.le_of_ble_eq_true rfl, Nat.le_of_ble_eq_true rfl⟩ rfl rfl (Nat.le_of_ble_eq_true rfl) dX7_mixBounds_32 ?_
        refine r_topl (w := hsC cT (fun p => bdz z n wt U S H p) h0 (p + 1)) (hsC_y (c := cT) (v := (fun p => bdz z n wt U S H p)) rfl) ?_
        refine r_lstore_n C [(3, .long (hsC cT (fun p => bdz z n wt U S H p) h0 (p + 1))), (5, .int (nI p)), (0, .ref (ad 117)), (1, .long h0)] dX7_mixBounds_35 rfl (by decide) rfl ?_
        refine r_iinc C (nI (p + 1)) [(5, .int (nI (p + 1))), (3, .long (hsC cT (fun p => bdz z n wt U S H p) h0 (p + 1))), (0, .ref (ad 117)), (1, .long h0)] dX7_mixBounds_36 (j := 1) rfl (inc_n p 1) (by decide) rfl ?_
        refine r_goto C 16 dX7_mixBounds_39 (by decide) ?_
        refine r_lv (lv2 := [(5, .int (nI (p + 1))), (3, .long (hsC cT (fun p => bdz z n wt U S H p) h0 (p + 1))), (0, .ref (ad 117)), (1, .long h0)]) [0, 1, 2, 3] rfl ?_
        exact ih_p (p + 1) (by omega) (by omega)
  refine r_lv (lv2 := [(5, .int (nI 0)), (3, .long (hsC cT (fun p => bdz z n wt U S H p) h0 0)), (0, .ref (ad 117)), (1, .long h0)]) [0, 1, 2, 3] rfl ?_
  exact Lp (3 + 1) 0 (by omega) (by omega)
/-- the share doubled k times -/
def dsc (x : UInt64) : Nat → UInt64
  | 0 => x
  | k + 1 => FP.dmul (dsc x k) 4611686018427387904
theorem ex_s (k : Nat) : 1023 - lN k - lN 1 = 1023 - lN (k + 1) := by rw [← lN_add, Int64.sub_sub]
set_option maxRecDepth 100000 in
set_option maxHeartbeats 4000000 in
theorem c_X7_bitsOf0 (l : Launch) (D : va_G) (cs : Nat → ClassId) (ad : Nat → Nat) (M : Mm) (x : UInt64) (hx0 : Op.cmpValue (FP.dcmp x 0) .g ≤ 0) : ∀ sz : Nat, Met l yX7_bitsOf (.code yX7_bitsOf cX7_bitsOf 7 (some .long) :: TT) { frames := 0, cells := 0, slots := 0, locals := 0 } (va_Pc [.double x] (fun U9 => U9.heap.size = sz ∧ wB D cs ad (fA ad sz) M U9)) (va_Ql (fun r M2 => r = 0 ∧ M2 = M) (wB D cs ad (fA ad sz)) (fA ad sz)) 0 0 (fA ad sz) := by
  refine st_L (by decide) (Nat.le_of_ble_eq_true rfl) (fun κ C E => ?_)
  refine r_lv (lv2 := [(0, .double x)]) [0] rfl ?_
  refine r_dload_n C dX7_bitsOf_0 rfl 0 rfl ?_
  refine r_dconst0 C dX7_bitsOf_1 ?_
  refine r_dcmp C dX7_bitsOf_2 ?_
  refine r_if_gt C 8 dX7_bitsOf_3 (by decide) (fun h3 => ?_) (fun h3 => ?_)
  · exact absurd hx0 (Int32.not_le.mpr h3)
  ·
    refine r_lconst C (lN 0) dX7_bitsOf_6 rfl ?_
    exact E 0 _ _ _ _ (Nat.le_of_ble_eq_true rfl) dX7_bitsOf_7 (⟨rfl, rfl⟩)
set_option maxRecDepth 100000 in
set_option maxHeartbeats 4000000 in
theorem c_X7_bitsOf1 (l : Launch) (D : va_G) (cs : Nat → ClassId) (ad : Nat → Nat) (M : Mm) (x : UInt64) (hx0 : ¬ Op.cmpValue (FP.dcmp x 0) .g ≤ 0) (K : Nat) (hK : K < 1000) (hlt : ∀ j, j < K → ¬ 0 ≤ Op.cmpValue (FP.dcmp (dsc x j) FP.dconst1) .g) (hge : 0 ≤ Op.cmpValue (FP.dcmp (dsc x K) FP.dconst1) .g) (hn1 : ∀ j, j < K → vf_n64 (FP.dmul (dsc x j) 4611686018427387904)) (hn2 : vf_n64 (FP.dsub (dsc x K) FP.dconst1)) (hn3 : vf_n64 (FP.dmul (FP.dsub (dsc x K) FP.dconst1) 4841369599423283200)) : ∀ sz : Nat, Met l yX7_bitsOf (.code yX7_bitsOf cX7_bitsOf 7 (some .long) :: TT) { frames := 0, cells := 0, slots := 0, locals := 0 } (va_Pc [.double x] (fun U9 => U9.heap.size = sz ∧ wB D cs ad (fA ad sz) M U9)) (va_Ql (fun r M2 => r = (1023 - lN K) <<< ((nI 52).toInt64 &&& 63) + FP.d2l (FP.dmul (FP.dsub (dsc x K) FP.dconst1) 4841369599423283200) ∧ M2 = M) (wB D cs ad (fA ad sz)) (fA ad sz)) 0 0 (fA ad sz) := by
  refine st_L (by decide) (Nat.le_of_ble_eq_true rfl) (fun κ C E => ?_)
  refine r_lv (lv2 := [(0, .double x)]) [0] rfl ?_
  refine r_dload_n C dX7_bitsOf_0 rfl 0 rfl ?_
  refine r_dconst0 C dX7_bitsOf_1 ?_
  refine r_dcmp C dX7_bitsOf_2 ?_
  refine r_if_gt C 8 dX7_bitsOf_3 (by decide) (fun h3 => ?_) (fun h3 => ?_)
  ·
    refine r_dload_n C dX7_bitsOf_8 rfl 0 rfl ?_
    refine r_dstore_n C [(2, .double x), (0, .double x)] dX7_bitsOf_9 rfl (by decide) rfl ?_
    refine r_ldc2 C (1023) k_X7_364 dX7_bitsOf_10 ?_
    refine r_lstore C [(4, .long (1023)), (2, .double x), (0, .double x)] dX7_bitsOf_13 (by decide) rfl ?_
    refine r_iconst C (nI 0) dX7_bitsOf_15 (by decide) ?_
    refine r_istore C [(6, .int (nI 0)), (4, .long (1023)), (2, .double x), (0, .double x)] dX7_bitsOf_16 (by decide) rfl ?_
    have Lp : ∀ (f k : Nat), K + 1 ≤ k + f → k ≤ K → VV l D cs ad 7 κ 0 M 18 [(6, .int (nI k)), (4, .long (1023 - lN k)), (2, .double (dsc x k)), (0, .double x)] [] := by
      intro f
      induction f with
      | zero => intro k hk1 hk2; exact absurd hk1 (by omega)
      | succ f ih =>
        intro k hk1 hk2
        refine r_iload C dX7_bitsOf_18 0 rfl ?_
        refine r_sipush C (nI 1000) dX7_bitsOf_20 (by decide) ?_
        refine r_icmpN_ge C 50 dX7_bitsOf_23 (by decide) (by omega) (by omega) (fun h23 => ?_) (fun h23 => ?_)
        ·
          exact absurd h23 (by omega)
        ·
          refine r_dload_n C dX7_bitsOf_26 rfl 2 rfl ?_
          refine r_dconst1 C dX7_bitsOf_27 ?_
          refine r_dcmp C dX7_bitsOf_28 ?_
          refine r_if_ge C 50 dX7_bitsOf_29 (by decide) (fun h29 => ?_) (fun h29 => ?_)
          ·
            have hk9 : K = k := by
              rcases Nat.lt_or_ge k K with q | q
              · exact absurd h29 (hlt k q)
              · omega
            subst hk9
            refine r_lload C dX7_bitsOf_50 1 rfl ?_
            refine r_bipush C (nI 52) dX7_bitsOf_52 (by decide) ?_
            refine r_lshl C dX7_bitsOf_54 ?_
            refine r_dload_n C dX7_bitsOf_55 rfl 2 rfl ?_
            refine r_dconst1 C dX7_bitsOf_56 ?_
            refine r_dsub C dX7_bitsOf_57 hn2 ?_
            refine r_ldc2d C (4841369599423283200) k_X7_368 dX7_bitsOf_58 ?_
            refine r_dmul C dX7_bitsOf_61 hn3 ?_
            refine r_d2l C dX7_bitsOf_62 ?_
            refine r_ladd C dX7_bitsOf_63 ?_
            exact E 0 _ _ _ _ (Nat.le_of_ble_eq_true rfl) dX7_bitsOf_64 (⟨rfl, rfl⟩)
          ·
            have hkK : k < K := by
              rcases Nat.lt_or_ge k K with q | q
              · exact q
              · have e : k = K := by omega
                subst e; exact absurd hge h29
            refine r_dload_n C dX7_bitsOf_32 rfl 2 rfl ?_
            refine r_ldc2d C (4611686018427387904) k_X7_366 dX7_bitsOf_33 ?_
            refine r_dmul C dX7_bitsOf_36 (hn1 k hkK) ?_
            refine r_dstore_n C [(2, .double (FP.dmul (dsc x k) (4611686018427387904))), (6, .int (nI k)), (4, .long (1023 - lN k)), (0, .double x)] dX7_bitsOf_37 rfl (by decide) rfl ?_
            refine r_lload C dX7_bitsOf_38 2 rfl ?_
            refine r_lconst C (lN 1) dX7_bitsOf_40 rfl ?_
            refine r_lsub C dX7_bitsOf_41 ?_
            refine r_topl (w := 1023 - lN (k + 1)) (ex_s k) ?_
            refine r_lstore C [(4, .long (1023 - lN (k + 1))), (2, .double (FP.dmul (dsc x k) (4611686018427387904))), (6, .int (nI k)), (0, .double x)] dX7_bitsOf_42 (by decide) rfl ?_
            refine r_iinc C (nI (k + 1)) [(6, .int (nI (k + 1))), (4, .long (1023 - lN (k + 1))), (2, .double (FP.dmul (dsc x k) (4611686018427387904))), (0, .double x)] dX7_bitsOf_44 (j := 2) rfl (inc_n k 1) (by decide) rfl ?_
            refine r_goto C 18 dX7_bitsOf_47 (by decide) ?_
            refine r_lv (lv2 := [(6, .int (nI (k + 1))), (4, .long (1023 - lN (k + 1))), (2, .double (dsc x (k + 1))), (0, .double x)]) [0, 1, 2, 3] rfl ?_
            exact ih (k + 1) (by omega) (by omega)
    refine r_lv (lv2 := [(6, .int (nI 0)), (4, .long (1023 - lN 0)), (2, .double (dsc x 0)), (0, .double x)]) [0, 1, 2, 3] rfl ?_
    exact Lp (K + 1) 0 (by omega) (by omega)
  · exact absurd (Int32.not_lt.mp h3) hx0
