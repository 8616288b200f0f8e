/-! ===== the law's method colors (written by wip/p30/gen/lm4.py) ===== -/
set_option maxRecDepth 100000 in
set_option maxHeartbeats 4000000 in
theorem c_L_colors (l : Launch) (D : va_G) (cs : Nat → ClassId) (ad : Nat → Nat) (M : Mm) (z : Nat → Int32) (n d s : Nat) (e : Nat → Nat → Bool) (sM : CS M z n d e s) (tM : LR M z n d e) : ∀ sz : Nat, Met l yL_colors (.code yL_colors cL_colors 10 (some .boolean) :: TT) { frames := 43, cells := 0, slots := 0, locals := 1064 } (va_Pc [.ref (ad 117), .ref (ad 135), .ref (ad 137)] (fun U9 => U9.heap.size = sz ∧ wB D cs ad (fA ad sz) M U9 ∧ xX (fA ad sz) U9 U9.heap)) (va_Qi (fun r M2 => r = bI true ∧ lkP M M2) (wB D cs ad (fA ad sz)) (fA ad sz)) 0 0 (fA ad sz) := by
  have hq := sM.1
  have hzz := gq_gz hq
  have hzz2 := hzz
  obtain ⟨-, -, hn, hd9, ⟨mk, hk⟩, hsy, hw, hl9, hh9, hl0, hh0⟩ := hzz2
  have hn4 := sM.2.1
  have hn8 : n ≤ 8 := hn.2
  have hn1 : 1 ≤ n := hn.1
  have hm := gk_gm hn8 hk
  have he := hq.2.2.2.2.1
  obtain ⟨hBr, hpo⟩ := gz_B hzz
  have kM := lk_0 M
  obtain ⟨b, hb, hb1, hb2, hc5, hcr, hb3⟩ := col_all hq hn4 sM.2.2.1
  have hlb := (lb_e hb hb1 hb2 hc5 hb3 (Nat.le_refl 256)).2 hb
  refine sn_Z (by decide) (Nat.le_of_ble_eq_true rfl) (fun κ C hN E => ?_)
  refine r_lv (lv2 := [(0, .ref (ad 117)), (1, .ref (ad 135)), (2, .ref (ad 137))]) [0, 1, 2] rfl ?_
  refine r_iconst C (nI 5) dL_colors_0 (by decide) ?_
  refine r_istore_n C [(3, .int (nI 5)), (0, .ref (ad 117)), (1, .ref (ad 135)), (2, .ref (ad 137))] dL_colors_1 rfl (by decide) rfl ?_
  refine r_iconst C ((-1)) dL_colors_2 (by decide) ?_
  refine r_istore C [(4, .int (-1)), (3, .int (nI 5)), (0, .ref (ad 117)), (1, .ref (ad 135)), (2, .ref (ad 137))] dL_colors_3 (by decide) rfl ?_
  refine r_iconst C (nI 0) dL_colors_5 (by decide) ?_
  refine r_istore C [(5, .int (nI 0)), (4, .int (-1)), (3, .int (nI 5)), (0, .ref (ad 117)), (1, .ref (ad 135)), (2, .ref (ad 137))] dL_colors_6 (by decide) rfl ?_
  have Lp : ∀ (f_c c : Nat), 256 + 1 ≤ c + f_c → c ≤ 256 → VV l D cs ad 10 κ 0 M 8 [(5, .int (nI c)), (3, .int (nI ((lbC e n c).1))), (4, .int (tel (lbC e n c).2)), (0, .ref (ad 117)), (1, .ref (ad 135)), (2, .ref (ad 137))] [] := by
    intro f_c
    induction f_c with
    | zero => intro c hk1_c hk2_c; exact absurd hk1_c (by omega)
    | succ f_c ih_c =>
      intro c hk1_c hk2_c
      have hl5 := lb_5 e n c
      have hm4 := mn_le c n
      refine r_iload C dL_colors_8 0 rfl ?_
      refine r_sipush C (nI 256) dL_colors_10 (by decide) ?_
      refine r_icmpN_ge C 156 dL_colors_13 (by decide) (by omega) (by omega) (fun h13 => ?_) (fun h13 => ?_)
      ·
        have hk9 : c = 256 := by omega
        subst hk9
        refine r_lv (lv2 := [(3, .int (nI ((lbC e n 256).1))), (4, .int (tel (lbC e n 256).2)), (0, .ref (ad 117)), (1, .ref (ad 135)), (2, .ref (ad 137))]) [1, 2, 3, 4, 5] rfl ?_
        refine r_lve (lv2 := [(3, .int (nI (cnK z n))), (4, .int (nI b)), (0, .ref (ad 117)), (1, .ref (ad 135)), (2, .ref (ad 137))]) (by rw [hlb]; rfl) ?_
        refine r_iconst C (nI 0) dL_colors_156 (by decide) ?_
        refine r_istore C [(5, .int (nI 0)), (3, .int (nI (cnK z n))), (4, .int (nI b)), (0, .ref (ad 117)), (1, .ref (ad 135)), (2, .ref (ad 137))] dL_colors_157 (by decide) rfl ?_
        have Lt : ∀ (f_v v : Nat) (M5 : Mm), n + 1 ≤ v + f_v → v ≤ n → lkP M M5 → VV l D cs ad 10 κ 0 M5 159 [(5, .int (nI v)), (3, .int (nI (cnK z n))), (4, .int (nI b)), (0, .ref (ad 117)), (1, .ref (ad 135)), (2, .ref (ad 137))] [] := by
          intro f_v
          induction f_v with
          | zero => intro v M5 hk1_v hk2_v hI_v; exact absurd hk1_v (by omega)
          | succ f_v ih_v =>
            intro v M5 hk1_v hk2_v hI_v
            have sM5 := lkC sM hI_v
            have tM5 := lkL tM hI_v
            have kM5 := hI_v
            have hcv := cda_lt b v
            refine r_iload C dL_colors_159 0 rfl ?_
            refine r_aload_n C dL_colors_161 rfl 4 rfl ?_
            refine r_iconst C (nI 0) dL_colors_162 (by decide) ?_
            refine r_iald C (id := 135) (n := 3) (a := 0) (by decide) rfl (by decide) (by decide) dL_colors_163 ?_
            refine r_topi (w := nI n) (tM5).1 ?_
            refine r_icmpN_ge C 192 dL_colors_164 (by decide) (by omega) (by omega) (fun h164 => ?_) (fun h164 => ?_)
            ·
              have hk9 : n = v := by omega
              subst hk9
              refine r_aload_n C dL_colors_192 rfl 3 rfl ?_
              refine r_bipush C (nI 6) dL_colors_193 (by decide) ?_
              refine r_ncallV_i (nA := 1) C hN (Nat.le_of_ble_eq_true rfl) [.int (nI 6)] (c_X7_count l D cs ad M5  z n d sM5.2.2.2.1 hn8 hm mk (wtz z) hk hw hsy hn1 sM5.2.2.2.2.1 (fun k q => Or.inl (sM5.2.2.2.2.2.1 k q)) 6 (by decide)) (tt_V ml_L_42 im_X7_count se_X7_count in_X7 co_X7_count) ⟨rfl, rfl⟩ ⟨rfl, by decide, by decide, by decide⟩ ⟨Nat.le_of_ble_eq_true rfl, Nat.le_of_ble_eq_true rfl⟩ (by decide) rfl rfl rfl rfl rfl (Nat.le_of_ble_eq_true rfl) dL_colors_195 (fun ru1 Mu1 qu1 => ?_)
              have sMu1 := lkC sM5 qu1.2
              have tMu1 := lkL tM5 qu1.2
              have kMu1 := kM5.tr qu1.2
              refine r_topi (w := nI (cnK z n)) (qu1.1.trans (rfl)) ?_
              refine r_iload_n C dL_colors_198 rfl 1 rfl ?_
              refine r_icmpN_ne C 206 dL_colors_199 (by decide) (by omega) (by omega) (fun h199 => ?_) (fun h199 => ?_)
              · exact absurd rfl h199
              ·
                refine r_iconst C (nI 1) dL_colors_202 (by decide) ?_
                refine r_goto C 207 dL_colors_203 (by decide) ?_
                exact E 0 _ _ _ _ (Nat.le_of_ble_eq_true rfl) dL_colors_207 rfl (⟨rfl, kMu1⟩)
            ·
              refine r_aload_n C dL_colors_167 rfl 3 rfl ?_
              refine r_iload C dL_colors_168 0 rfl ?_
              refine r_iconst C (nI 4) dL_colors_170 (by decide) ?_
              refine r_ncallV_i (nA := 2) C hN (Nat.le_of_ble_eq_true rfl) [.int (nI v), .int (nI 4)] (c_X7_vertex l D cs ad M5  z n d sM5.2.2.2.1 hn8 hm mk (wtz z) hk hw hsy hn1 v 4 (by omega) (by omega)) (tt_V ml_L_49 im_X7_vertex se_X7_vertex in_X7 co_X7_vertex) ⟨rfl, rfl⟩ ⟨rfl, by decide, by decide, by decide⟩ ⟨Nat.le_of_ble_eq_true rfl, Nat.le_of_ble_eq_true rfl⟩ (by decide) rfl rfl rfl rfl rfl (Nat.le_of_ble_eq_true rfl) dL_colors_171 (fun ru2 Mu2 qu2 => ?_)
              have sMu2 := lkC sM5 qu2.2
              have tMu2 := lkL tM5 qu2.2
              have kMu2 := kM5.tr qu2.2
              refine r_topi (w := nI (cda b v)) (qu2.1.trans (hcr v (by omega))) ?_
              refine r_iload C dL_colors_174 2 rfl ?_
              refine r_iload C dL_colors_176 0 rfl ?_
              refine r_pcallS_i (nA := 2) C (Nat.le_of_ble_eq_true rfl) [.int (nI b), .int (nI v)] (c_L_colorAt l D cs ad Mu2  b (by omega) v (by omega)) (tt_S ml_L_53 st_L_colorAt in_L co_L_colorAt) ⟨rfl, rfl⟩ ⟨rfl, by decide, by decide, by decide⟩ ⟨Nat.le_of_ble_eq_true rfl, Nat.le_of_ble_eq_true rfl⟩ rfl rfl (Nat.le_of_ble_eq_true rfl) dL_colors_178 ?_
              refine r_icmpN_eq C 186 dL_colors_181 (by decide) (by omega) (by omega) (fun h181 => ?_) (fun h181 => ?_)
              ·
                refine r_iinc C (nI (v + 1)) [(5, .int (nI (v + 1))), (3, .int (nI (cnK z n))), (4, .int (nI b)), (0, .ref (ad 117)), (1, .ref (ad 135)), (2, .ref (ad 137))] dL_colors_186 (j := 0) rfl (inc_n v 1) (by decide) rfl ?_
                refine r_goto C 159 dL_colors_189 (by decide) ?_
                refine r_lv (lv2 := [(5, .int (nI (v + 1))), (3, .int (nI (cnK z n))), (4, .int (nI b)), (0, .ref (ad 117)), (1, .ref (ad 135)), (2, .ref (ad 137))]) [0, 1, 2, 3, 4, 5] rfl ?_
                exact ih_v (v + 1) _ (by omega) (by omega) kMu2
              · exact absurd rfl h181
        refine r_lv (lv2 := [(5, .int (nI 0)), (3, .int (nI (cnK z n))), (4, .int (nI b)), (0, .ref (ad 117)), (1, .ref (ad 135)), (2, .ref (ad 137))]) [0, 1, 2, 3, 4, 5] rfl ?_
        exact Lt (n + 1) 0 _ (by omega) (by omega) kM
      ·
        refine r_iconst C (nI 0) dL_colors_16 (by decide) ?_
        refine r_istore C [(6, .int (nI 0)), (5, .int (nI c)), (3, .int (nI ((lbC e n c).1))), (4, .int (tel (lbC e n c).2)), (0, .ref (ad 117)), (1, .ref (ad 135)), (2, .ref (ad 137))] dL_colors_17 (by decide) rfl ?_
        refine r_iconst C (nI 1) dL_colors_19 (by decide) ?_
        refine r_istore C [(7, .int (nI 1)), (6, .int (nI 0)), (5, .int (nI c)), (3, .int (nI ((lbC e n c).1))), (4, .int (tel (lbC e n c).2)), (0, .ref (ad 117)), (1, .ref (ad 135)), (2, .ref (ad 137))] dL_colors_20 (by decide) rfl ?_
        refine r_iconst C (nI 0) dL_colors_22 (by decide) ?_
        refine r_istore C [(8, .int (nI 0)), (7, .int (nI 1)), (6, .int (nI 0)), (5, .int (nI c)), (3, .int (nI ((lbC e n c).1))), (4, .int (tel (lbC e n c).2)), (0, .ref (ad 117)), (1, .ref (ad 135)), (2, .ref (ad 137))] dL_colors_23 (by decide) rfl ?_
        have Lq : ∀ (f_v v : Nat), n + 1 ≤ v + f_v → v ≤ n → VV l D cs ad 10 κ 0 M 25 [(8, .int (nI v)), (6, .int (usI c v)), (7, .int (bI (kvB e c v))), (5, .int (nI c)), (3, .int (nI ((lbC e n c).1))), (4, .int (tel (lbC e n c).2)), (0, .ref (ad 117)), (1, .ref (ad 135)), (2, .ref (ad 137))] [] := by
          intro f_v
          induction f_v with
          | zero => intro v hk1_v hk2_v; exact absurd hk1_v (by omega)
          | succ f_v ih_v =>
            intro v hk1_v hk2_v
            have hcv := cda_lt c v
            refine r_iload C dL_colors_25 0 rfl ?_
            refine r_aload_n C dL_colors_27 rfl 7 rfl ?_
            refine r_iconst C (nI 0) dL_colors_28 (by decide) ?_
            refine r_iald C (id := 135) (n := 3) (a := 0) (by decide) rfl (by decide) (by decide) dL_colors_29 ?_
            refine r_topi (w := nI n) (tM).1 ?_
            refine r_icmpN_ge C 102 dL_colors_30 (by decide) (by omega) (by omega) (fun h30 => ?_) (fun h30 => ?_)
            ·
              have hk9 : n = v := by omega
              subst hk9
              refine r_iconst C (nI 0) dL_colors_102 (by decide) ?_
              refine r_istore C [(8, .int (nI 0)), (6, .int (usI c n)), (7, .int (bI (kvB e c n))), (5, .int (nI c)), (3, .int (nI ((lbC e n c).1))), (4, .int (tel (lbC e n c).2)), (0, .ref (ad 117)), (1, .ref (ad 135)), (2, .ref (ad 137))] dL_colors_103 (by decide) rfl ?_
              refine r_iconst C (nI 0) dL_colors_105 (by decide) ?_
              refine r_istore C [(9, .int (nI 0)), (8, .int (nI 0)), (6, .int (usI c n)), (7, .int (bI (kvB e c n))), (5, .int (nI c)), (3, .int (nI ((lbC e n c).1))), (4, .int (tel (lbC e n c).2)), (0, .ref (ad 117)), (1, .ref (ad 135)), (2, .ref (ad 137))] dL_colors_106 (by decide) rfl ?_
              have Ls : ∀ (f k : Nat), 4 + 1 ≤ k + f → k ≤ 4 → VV l D cs ad 10 κ 0 M 108 [(9, .int (nI k)), (8, .int (sI (fun j => (usI c n >>> (nI j &&& 31)) &&& nI 1) k)), (6, .int (usI c n)), (7, .int (bI (kvB e c n))), (5, .int (nI c)), (3, .int (nI ((lbC e n c).1))), (4, .int (tel (lbC e n c).2)), (0, .ref (ad 117)), (1, .ref (ad 135)), (2, .ref (ad 137))] [] := by
                intro f
                induction f with
                | zero => intro k hk1 hk2; exact absurd hk1 (by omega)
                | succ f ih =>
                  intro k hk1 hk2
                  refine r_iload C dL_colors_108 0 rfl ?_
                  refine r_iconst C (nI 4) dL_colors_110 (by decide) ?_
                  refine r_icmpN_ge C 132 dL_colors_111 (by decide) (by omega) (by omega) (fun h111 => ?_) (fun h111 => ?_)
                  ·
                    have hk9 : 4 = k := by omega
                    subst hk9
                    refine r_lve (lv2 := [(9, .int (nI 4)), (8, .int (nI (mnN c n))), (6, .int (usI c n)), (7, .int (bI (kvB e c n))), (5, .int (nI c)), (3, .int (nI ((lbC e n c).1))), (4, .int (tel (lbC e n c).2)), (0, .ref (ad 117)), (1, .ref (ad 135)), (2, .ref (ad 137))]) (by rw [us_n (by omega) hn4]) ?_
                    refine r_iload C dL_colors_132 3 rfl ?_
                    refine r_ifB_eq C 150 dL_colors_134 (by decide) (fun h134 => ?_) (fun h134 => ?_)
                    ·
                      refine r_lve (lv2 := [(9, .int (nI 4)), (8, .int (nI (mnN c n))), (6, .int (usI c n)), (7, .int (bI (kvB e c n))), (5, .int (nI c)), (3, .int (nI ((lbC e n (c + 1)).1))), (4, .int (tel (lbC e n (c + 1)).2)), (0, .ref (ad 117)), (1, .ref (ad 135)), (2, .ref (ad 137))]) (by rw [lb_n (Or.inl h134)]) ?_
                      refine r_iinc C (nI (c + 1)) [(5, .int (nI (c + 1))), (9, .int (nI 4)), (8, .int (nI (mnN c n))), (6, .int (usI c n)), (7, .int (bI (kvB e c n))), (3, .int (nI ((lbC e n (c + 1)).1))), (4, .int (tel (lbC e n (c + 1)).2)), (0, .ref (ad 117)), (1, .ref (ad 135)), (2, .ref (ad 137))] dL_colors_150 (j := 4) rfl (inc_n c 1) (by decide) rfl ?_
                      refine r_goto C 8 dL_colors_153 (by decide) ?_
                      refine r_lv (lv2 := [(5, .int (nI (c + 1))), (3, .int (nI ((lbC e n (c + 1)).1))), (4, .int (tel (lbC e n (c + 1)).2)), (0, .ref (ad 117)), (1, .ref (ad 135)), (2, .ref (ad 137))]) [0, 5, 6, 7, 8, 9] rfl ?_
                      exact ih_c (c + 1) (by omega) (by omega)
                    ·
                      refine r_iload C dL_colors_137 1 rfl ?_
                      refine r_iload_n C dL_colors_139 rfl 5 rfl ?_
                      refine r_icmpN_ge C 150 dL_colors_140 (by decide) (by omega) (by omega) (fun h140 => ?_) (fun h140 => ?_)
                      ·
                        refine r_lve (lv2 := [(9, .int (nI 4)), (8, .int (nI (mnN c n))), (6, .int (usI c n)), (7, .int (bI (kvB e c n))), (5, .int (nI c)), (3, .int (nI ((lbC e n (c + 1)).1))), (4, .int (tel (lbC e n (c + 1)).2)), (0, .ref (ad 117)), (1, .ref (ad 135)), (2, .ref (ad 137))]) (by rw [lb_n (Or.inr (by omega))]) ?_
                        refine r_iinc C (nI (c + 1)) [(5, .int (nI (c + 1))), (9, .int (nI 4)), (8, .int (nI (mnN c n))), (6, .int (usI c n)), (7, .int (bI (kvB e c n))), (3, .int (nI ((lbC e n (c + 1)).1))), (4, .int (tel (lbC e n (c + 1)).2)), (0, .ref (ad 117)), (1, .ref (ad 135)), (2, .ref (ad 137))] dL_colors_150 (j := 4) rfl (inc_n c 1) (by decide) rfl ?_
                        refine r_goto C 8 dL_colors_153 (by decide) ?_
                        refine r_lv (lv2 := [(5, .int (nI (c + 1))), (3, .int (nI ((lbC e n (c + 1)).1))), (4, .int (tel (lbC e n (c + 1)).2)), (0, .ref (ad 117)), (1, .ref (ad 135)), (2, .ref (ad 137))]) [0, 5, 6, 7, 8, 9] rfl ?_
                        exact ih_c (c + 1) (by omega) (by omega)
                      ·
                        refine r_iload C dL_colors_143 1 rfl ?_
                        refine r_istore_n C [(3, .int (nI (mnN c n))), (9, .int (nI 4)), (8, .int (nI (mnN c n))), (6, .int (usI c n)), (7, .int (bI (kvB e c n))), (5, .int (nI c)), (4, .int (tel (lbC e n c).2)), (0, .ref (ad 117)), (1, .ref (ad 135)), (2, .ref (ad 137))] dL_colors_145 rfl (by decide) rfl ?_
                        refine r_iload C dL_colors_146 5 rfl ?_
                        refine r_istore C [(4, .int (nI c)), (3, .int (nI (mnN c n))), (9, .int (nI 4)), (8, .int (nI (mnN c n))), (6, .int (usI c n)), (7, .int (bI (kvB e c n))), (5, .int (nI c)), (0, .ref (ad 117)), (1, .ref (ad 135)), (2, .ref (ad 137))] dL_colors_148 (by decide) rfl ?_
                        refine r_lve (lv2 := [(4, .int (tel (lbC e n (c + 1)).2)), (3, .int (nI ((lbC e n (c + 1)).1))), (9, .int (nI 4)), (8, .int (nI (mnN c n))), (6, .int (usI c n)), (7, .int (bI (kvB e c n))), (5, .int (nI c)), (0, .ref (ad 117)), (1, .ref (ad 135)), (2, .ref (ad 137))]) (by rw [lb_y h134 (by omega)]; rfl) ?_
                        refine r_iinc C (nI (c + 1)) [(5, .int (nI (c + 1))), (4, .int (tel (lbC e n (c + 1)).2)), (3, .int (nI ((lbC e n (c + 1)).1))), (9, .int (nI 4)), (8, .int (nI (mnN c n))), (6, .int (usI c n)), (7, .int (bI (kvB e c n))), (0, .ref (ad 117)), (1, .ref (ad 135)), (2, .ref (ad 137))] dL_colors_150 (j := 6) rfl (inc_n c 1) (by decide) rfl ?_
                        refine r_goto C 8 dL_colors_153 (by decide) ?_
                        refine r_lv (lv2 := [(5, .int (nI (c + 1))), (3, .int (nI ((lbC e n (c + 1)).1))), (4, .int (tel (lbC e n (c + 1)).2)), (0, .ref (ad 117)), (1, .ref (ad 135)), (2, .ref (ad 137))]) [0, 2, 1, 7, 8, 9] rfl ?_
                        exact ih_c (c + 1) (by omega) (by omega)
                  ·
                    refine r_iload C dL_colors_114 1 rfl ?_
                    refine r_iload C dL_colors_116 2 rfl ?_
                    refine r_iload C dL_colors_118 0 rfl ?_
                    refine r_ishr C dL_colors_120 ?_
                    refine r_iconst C (nI 1) dL_colors_121 (by decide) ?_
                    refine r_iand C dL_colors_122 ?_
                    refine r_iadd C dL_colors_123 ?_
                    refine r_istore C [(8, .int ((sI (fun j => (usI c n >>> (nI j &&& 31)) &&& nI 1) k) + (((usI c n) >>> ((nI k) &&& 31)) &&& (nI 1)))), (9, .int (nI k)), (6, .int (usI c n)), (7, .int (bI (kvB e c n))), (5, .int (nI c)), (3, .int (nI ((lbC e n c).1))), (4, .int (tel (lbC e n c).2)), (0, .ref (ad 117)), (1, .ref (ad 135)), (2, .ref (ad 137))] dL_colors_124 (by decide) rfl ?_
                    refine r_iinc C (nI (k + 1)) [(9, .int (nI (k + 1))), (8, .int ((sI (fun j => (usI c n >>> (nI j &&& 31)) &&& nI 1) k) + (((usI c n) >>> ((nI k) &&& 31)) &&& (nI 1)))), (6, .int (usI c n)), (7, .int (bI (kvB e c n))), (5, .int (nI c)), (3, .int (nI ((lbC e n c).1))), (4, .int (tel (lbC e n c).2)), (0, .ref (ad 117)), (1, .ref (ad 135)), (2, .ref (ad 137))] dL_colors_126 (j := 1) rfl (inc_n k 1) (by decide) rfl ?_
                    refine r_goto C 108 dL_colors_129 (by decide) ?_
                    refine r_lv (lv2 := [(9, .int (nI (k + 1))), (8, .int (sI (fun j => (usI c n >>> (nI j &&& 31)) &&& nI 1) (k + 1))), (6, .int (usI c n)), (7, .int (bI (kvB e c n))), (5, .int (nI c)), (3, .int (nI ((lbC e n c).1))), (4, .int (tel (lbC e n c).2)), (0, .ref (ad 117)), (1, .ref (ad 135)), (2, .ref (ad 137))]) [0, 1, 2, 3, 4, 5, 6, 7, 8, 9] rfl ?_
                    exact ih (k + 1) (by omega) (by omega)
              refine r_lv (lv2 := [(9, .int (nI 0)), (8, .int (sI (fun j => (usI c n >>> (nI j &&& 31)) &&& nI 1) 0)), (6, .int (usI c n)), (7, .int (bI (kvB e c n))), (5, .int (nI c)), (3, .int (nI ((lbC e n c).1))), (4, .int (tel (lbC e n c).2)), (0, .ref (ad 117)), (1, .ref (ad 135)), (2, .ref (ad 137))]) [0, 1, 2, 3, 4, 5, 6, 7, 8, 9] rfl ?_
              exact Ls (4 + 1) 0 (by omega) (by omega)
            ·
              refine r_iload C dL_colors_33 1 rfl ?_
              refine r_iconst C (nI 1) dL_colors_35 (by decide) ?_
              refine r_iload C dL_colors_36 3 rfl ?_
              refine r_iload C dL_colors_38 0 rfl ?_
              refine r_pcallS_i (nA := 2) C (Nat.le_of_ble_eq_true rfl) [.int (nI c), .int (nI v)] (c_L_colorAt l D cs ad M  c (by omega) v (by omega)) (tt_S ml_L_53 st_L_colorAt in_L co_L_colorAt) ⟨rfl, rfl⟩ ⟨rfl, by decide, by decide, by decide⟩ ⟨Nat.le_of_ble_eq_true rfl, Nat.le_of_ble_eq_true rfl⟩ rfl rfl (Nat.le_of_ble_eq_true rfl) dL_colors_40 ?_
              refine r_ishl C dL_colors_43 ?_
              refine r_topi (w := s1 (cda c v)) rfl ?_
              refine r_ior C dL_colors_44 ?_
              refine r_istore C [(6, .int ((usI c v) ||| (s1 (cda c v)))), (8, .int (nI v)), (7, .int (bI (kvB e c v))), (5, .int (nI c)), (3, .int (nI ((lbC e n c).1))), (4, .int (tel (lbC e n c).2)), (0, .ref (ad 117)), (1, .ref (ad 135)), (2, .ref (ad 137))] dL_colors_45 (by decide) rfl ?_
              refine r_iconst C (nI 0) dL_colors_47 (by decide) ?_
              refine r_lve (lv2 := [(6, .int ((usI c v) ||| (s1 (cda c v)))), (8, .int (nI v)), (7, .int (bI (kvB e c v && kwB e c v 0))), (5, .int (nI c)), (3, .int (nI ((lbC e n c).1))), (4, .int (tel (lbC e n c).2)), (0, .ref (ad 117)), (1, .ref (ad 135)), (2, .ref (ad 137))]) (by rw [show (kvB e c v && kwB e c v 0) = kvB e c v from Bool.and_true _]) ?_
              refine r_istore C [(9, .int (nI 0)), (6, .int ((usI c v) ||| (s1 (cda c v)))), (8, .int (nI v)), (7, .int (bI (kvB e c v && kwB e c v 0))), (5, .int (nI c)), (3, .int (nI ((lbC e n c).1))), (4, .int (tel (lbC e n c).2)), (0, .ref (ad 117)), (1, .ref (ad 135)), (2, .ref (ad 137))] dL_colors_48 (by decide) rfl ?_
              have Lr : ∀ (f_w w : Nat), v + 1 ≤ w + f_w → w ≤ v → VV l D cs ad 10 κ 0 M 50 [(9, .int (nI w)), (7, .int (bI (kvB e c v && kwB e c v w))), (8, .int (nI v)), (6, .int (usI c (v + 1))), (5, .int (nI c)), (3, .int (nI ((lbC e n c).1))), (4, .int (tel (lbC e n c).2)), (0, .ref (ad 117)), (1, .ref (ad 135)), (2, .ref (ad 137))] [] := by
                intro f_w
                induction f_w with
                | zero => intro w hk1_w hk2_w; exact absurd hk1_w (by omega)
                | succ f_w ih_w =>
                  intro w hk1_w hk2_w
                  have hcw := cda_lt c w
                  refine r_iload C dL_colors_50 0 rfl ?_
                  refine r_iload C dL_colors_52 2 rfl ?_
                  refine r_icmpN_ge C 96 dL_colors_54 (by decide) (by omega) (by omega) (fun h54 => ?_) (fun h54 => ?_)
                  ·
                    have hk9 : v = w := by omega
                    subst hk9
                    refine r_iinc C (nI (v + 1)) [(8, .int (nI (v + 1))), (9, .int (nI v)), (7, .int (bI (kvB e c v && kwB e c v v))), (6, .int (usI c (v + 1))), (5, .int (nI c)), (3, .int (nI ((lbC e n c).1))), (4, .int (tel (lbC e n c).2)), (0, .ref (ad 117)), (1, .ref (ad 135)), (2, .ref (ad 137))] dL_colors_96 (j := 2) rfl (inc_n v 1) (by decide) rfl ?_
                    refine r_goto C 25 dL_colors_99 (by decide) ?_
                    refine r_lv (lv2 := [(8, .int (nI (v + 1))), (6, .int (usI c (v + 1))), (7, .int (bI (kvB e c (v + 1)))), (5, .int (nI c)), (3, .int (nI ((lbC e n c).1))), (4, .int (tel (lbC e n c).2)), (0, .ref (ad 117)), (1, .ref (ad 135)), (2, .ref (ad 137))]) [0, 3, 2, 4, 5, 6, 7, 8, 9] rfl ?_
                    exact ih_v (v + 1) (by omega) (by omega)
                  ·
                    refine r_aload_n C dL_colors_57 rfl 9 rfl ?_
                    refine r_iconst C (nI 4) dL_colors_58 (by decide) ?_
                    refine r_iload C dL_colors_59 2 rfl ?_
                    refine r_imul C dL_colors_61 ?_
                    refine r_topi (pk_mul 4 v) ?_
                    refine r_iload C dL_colors_62 0 rfl ?_
                    refine r_iadd C dL_colors_64 ?_
                    refine r_topi (nI_add (4 * v) w) ?_
                    refine r_iald C (id := 137) (n := 20) (a := (4 * v) + w) (by decide) rfl (by omega) (by decide) dL_colors_65 ?_
                    refine r_topi (w := bI (e v w)) ((tM).2.2.2.1 v w (by omega) (by omega)) ?_
                    refine r_iconst C (nI 1) dL_colors_66 (by decide) ?_
                    refine r_icmp_ne C 90 dL_colors_67 (by decide) (fun h67 => ?_) (fun h67 => ?_)
                    ·
                      refine r_lve (lv2 := [(9, .int (nI w)), (7, .int (bI (kvB e c v && kwB e c v (w + 1)))), (8, .int (nI v)), (6, .int (usI c (v + 1))), (5, .int (nI c)), (3, .int (nI ((lbC e n c).1))), (4, .int (tel (lbC e n c).2)), (0, .ref (ad 117)), (1, .ref (ad 135)), (2, .ref (ad 137))]) (by rw [kw_n (Or.inl (b1_f h67))]) ?_
                      refine r_iinc C (nI (w + 1)) [(9, .int (nI (w + 1))), (7, .int (bI (kvB e c v && kwB e c v (w + 1)))), (8, .int (nI v)), (6, .int (usI c (v + 1))), (5, .int (nI c)), (3, .int (nI ((lbC e n c).1))), (4, .int (tel (lbC e n c).2)), (0, .ref (ad 117)), (1, .ref (ad 135)), (2, .ref (ad 137))] dL_colors_90 (j := 0) rfl (inc_n w 1) (by decide) rfl ?_
                      refine r_goto C 50 dL_colors_93 (by decide) ?_
                      refine r_lv (lv2 := [(9, .int (nI (w + 1))), (7, .int (bI (kvB e c v && kwB e c v (w + 1)))), (8, .int (nI v)), (6, .int (usI c (v + 1))), (5, .int (nI c)), (3, .int (nI ((lbC e n c).1))), (4, .int (tel (lbC e n c).2)), (0, .ref (ad 117)), (1, .ref (ad 135)), (2, .ref (ad 137))]) [0, 1, 2, 3, 4, 5, 6, 7, 8, 9] rfl ?_
                      exact ih_w (w + 1) (by omega) (by omega)
                    ·
                      refine r_iload C dL_colors_70 4 rfl ?_
                      refine r_iload C dL_colors_72 2 rfl ?_
                      refine r_pcallS_i (nA := 2) C (Nat.le_of_ble_eq_true rfl) [.int (nI c), .int (nI v)] (c_L_colorAt l D cs ad M  c (by omega) v (by omega)) (tt_S ml_L_53 st_L_colorAt in_L co_L_colorAt) ⟨rfl, rfl⟩ ⟨rfl, by decide, by decide, by decide⟩ ⟨Nat.le_of_ble_eq_true rfl, Nat.le_of_ble_eq_true rfl⟩ rfl rfl (Nat.le_of_ble_eq_true rfl) dL_colors_74 ?_
                      refine r_iload C dL_colors_77 4 rfl ?_
                      refine r_iload C dL_colors_79 0 rfl ?_
                      refine r_pcallS_i (nA := 2) C (Nat.le_of_ble_eq_true rfl) [.int (nI c), .int (nI w)] (c_L_colorAt l D cs ad M  c (by omega) w (by omega)) (tt_S ml_L_53 st_L_colorAt in_L co_L_colorAt) ⟨rfl, rfl⟩ ⟨rfl, by decide, by decide, by decide⟩ ⟨Nat.le_of_ble_eq_true rfl, Nat.le_of_ble_eq_true rfl⟩ rfl rfl (Nat.le_of_ble_eq_true rfl) dL_colors_81 ?_
                      refine r_icmpN_ne C 90 dL_colors_84 (by decide) (by omega) (by omega) (fun h84 => ?_) (fun h84 => ?_)
                      ·
                        refine r_lve (lv2 := [(9, .int (nI w)), (7, .int (bI (kvB e c v && kwB e c v (w + 1)))), (8, .int (nI v)), (6, .int (usI c (v + 1))), (5, .int (nI c)), (3, .int (nI ((lbC e n c).1))), (4, .int (tel (lbC e n c).2)), (0, .ref (ad 117)), (1, .ref (ad 135)), (2, .ref (ad 137))]) (by rw [kw_n (Or.inr h84)]) ?_
                        refine r_iinc C (nI (w + 1)) [(9, .int (nI (w + 1))), (7, .int (bI (kvB e c v && kwB e c v (w + 1)))), (8, .int (nI v)), (6, .int (usI c (v + 1))), (5, .int (nI c)), (3, .int (nI ((lbC e n c).1))), (4, .int (tel (lbC e n c).2)), (0, .ref (ad 117)), (1, .ref (ad 135)), (2, .ref (ad 137))] dL_colors_90 (j := 0) rfl (inc_n w 1) (by decide) rfl ?_
                        refine r_goto C 50 dL_colors_93 (by decide) ?_
                        refine r_lv (lv2 := [(9, .int (nI (w + 1))), (7, .int (bI (kvB e c v && kwB e c v (w + 1)))), (8, .int (nI v)), (6, .int (usI c (v + 1))), (5, .int (nI c)), (3, .int (nI ((lbC e n c).1))), (4, .int (tel (lbC e n c).2)), (0, .ref (ad 117)), (1, .ref (ad 135)), (2, .ref (ad 137))]) [0, 1, 2, 3, 4, 5, 6, 7, 8, 9] rfl ?_
                        exact ih_w (w + 1) (by omega) (by omega)
                      ·
                        refine r_iconst C (nI 0) dL_colors_87 (by decide) ?_
                        refine r_istore C [(7, .int (nI 0)), (9, .int (nI w)), (8, .int (nI v)), (6, .int (usI c (v + 1))), (5, .int (nI c)), (3, .int (nI ((lbC e n c).1))), (4, .int (tel (lbC e n c).2)), (0, .ref (ad 117)), (1, .ref (ad 135)), (2, .ref (ad 137))] dL_colors_88 (by decide) rfl ?_
                        refine r_lve (lv2 := [(7, .int (bI (kvB e c v && kwB e c v (w + 1)))), (9, .int (nI w)), (8, .int (nI v)), (6, .int (usI c (v + 1))), (5, .int (nI c)), (3, .int (nI ((lbC e n c).1))), (4, .int (tel (lbC e n c).2)), (0, .ref (ad 117)), (1, .ref (ad 135)), (2, .ref (ad 137))]) (by rw [kw_y (b1_t h67) h84, Bool.and_false]; rfl) ?_
                        refine r_iinc C (nI (w + 1)) [(9, .int (nI (w + 1))), (7, .int (bI (kvB e c v && kwB e c v (w + 1)))), (8, .int (nI v)), (6, .int (usI c (v + 1))), (5, .int (nI c)), (3, .int (nI ((lbC e n c).1))), (4, .int (tel (lbC e n c).2)), (0, .ref (ad 117)), (1, .ref (ad 135)), (2, .ref (ad 137))] dL_colors_90 (j := 1) rfl (inc_n w 1) (by decide) rfl ?_
                        refine r_goto C 50 dL_colors_93 (by decide) ?_
                        refine r_lv (lv2 := [(9, .int (nI (w + 1))), (7, .int (bI (kvB e c v && kwB e c v (w + 1)))), (8, .int (nI v)), (6, .int (usI c (v + 1))), (5, .int (nI c)), (3, .int (nI ((lbC e n c).1))), (4, .int (tel (lbC e n c).2)), (0, .ref (ad 117)), (1, .ref (ad 135)), (2, .ref (ad 137))]) [0, 1, 2, 3, 4, 5, 6, 7, 8, 9] rfl ?_
                        exact ih_w (w + 1) (by omega) (by omega)
              refine r_lv (lv2 := [(9, .int (nI 0)), (7, .int (bI (kvB e c v && kwB e c v 0))), (8, .int (nI v)), (6, .int (usI c (v + 1))), (5, .int (nI c)), (3, .int (nI ((lbC e n c).1))), (4, .int (tel (lbC e n c).2)), (0, .ref (ad 117)), (1, .ref (ad 135)), (2, .ref (ad 137))]) [0, 3, 2, 1, 4, 5, 6, 7, 8, 9] rfl ?_
              exact Lr (v + 1) 0 (by omega) (by omega)
        refine r_lv (lv2 := [(8, .int (nI 0)), (6, .int (usI c 0)), (7, .int (bI (kvB e c 0))), (5, .int (nI c)), (3, .int (nI ((lbC e n c).1))), (4, .int (tel (lbC e n c).2)), (0, .ref (ad 117)), (1, .ref (ad 135)), (2, .ref (ad 137))]) [0, 2, 1, 3, 4, 5, 6, 7, 8] rfl ?_
        exact Lq (n + 1) 0 (by omega) (by omega)
  refine r_lv (lv2 := [(5, .int (nI 0)), (3, .int (nI ((lbC e n 0).1))), (4, .int (tel (lbC e n 0).2)), (0, .ref (ad 117)), (1, .ref (ad 135)), (2, .ref (ad 137))]) [0, 2, 1, 3, 4, 5] rfl ?_
  exact Lp (256 + 1) 0 (by omega) (by omega)
