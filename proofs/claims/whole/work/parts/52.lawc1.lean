/-! ===== the law's cases (written by wip/whole/gen/lawc.py) ===== -/
set_option maxRecDepth 100000 in
set_option maxHeartbeats 4000000 in
theorem LC_begin {l : Launch} {D : va_G} {cs : Nat → ClassId} {ad : Nat → Nat} {κ : Kx} {u U : Nat} {M : Mm} (C : CX D cs ad cL_law 9 RL 2048 84000 U κ) (hN : CN ad κ) (hfl : l.stackTraces = false) {b9 L i9 : Nat} {xs : Nat → Int32} (hSc : CSX ad b9 L xs κ) (hL : L ≤ 2048) (hj : i9 + 4 ≤ L) {s9 lt len n d : Nat} {ct : Nat → Nat} (hX : RX M s9 lt len ct n d) (hu : u + 1 ≤ U) (k9 : ∀ (u2 : Nat) (M2 : Mm), RR M2 → u2 ≤ u + 1 → VV l D cs ad 9 κ u2 M2 1584 [(0, .ref b9), (1, .ref (ad 117)), (2, .ref (ad 135)), (3, .ref (ad 145)), (4, .int (nI i9))] []) : VV l D cs ad 9 κ u M 160 [(0, .ref b9), (1, .ref (ad 117)), (2, .ref (ad 135)), (3, .ref (ad 145)), (4, .int (nI i9))] [] := by
  obtain ⟨hz, hg, hpm, hks, hkh, hkt, hms, hml, htx⟩ := (show RX M s9 lt len ct n d from hX)
  obtain ⟨hzn, hzd, ⟨hn1, hn8⟩, ⟨hd1, hd4⟩, ⟨mk, hk⟩, hsy, hw9, hlb, hhb, hlz, hz0⟩ := (show gz (M.1 136) n d from hz)
  obtain ⟨hlt, hlt6, hs, hs6, hhi⟩ := (show KH M (fun j p => M.1 137 (55 * j + p)) s9 lt from hkh)
  obtain ⟨hlen, hl60, hct⟩ := (show KT M ct len from hkt)
  have hm := gk_gm hn8 hk
  obtain ⟨e0, hq0⟩ := gz_gq hz
  cases w1 : (wit (xs (i9 + 1)) (nI 1) (nI 8) && wit (xs (i9 + 2)) (nI 1) (nI 4)) with
  | false =>
    refine r_aload_n C dL_law_160 rfl 1 rfl ?_
    refine r_aload_n C dL_law_161 rfl 0 rfl ?_
    refine r_iload C dL_law_162 4 rfl ?_
    refine r_iconst C (nI 1) dL_law_164 (by decide) ?_
    refine r_iadd C dL_law_165 ?_
    refine r_topi (nI_add i9 1) ?_
    refine r_sld C hSc (by omega) hL dL_law_166 ?_
    refine r_aload_n C dL_law_167 rfl 0 rfl ?_
    refine r_iload C dL_law_168 4 rfl ?_
    refine r_iconst C (nI 2) dL_law_170 (by decide) ?_
    refine r_iadd C dL_law_171 ?_
    refine r_topi (nI_add i9 2) ?_
    refine r_sld C hSc (by omega) hL dL_law_172 ?_
    refine r_aload_n C dL_law_173 rfl 3 rfl ?_
    refine r_wcall C hN (u1 := 1) (nA := 4) (by omega) [.ref (ad 117), .int (xs (i9 + 1)), .int (xs (i9 + 2)), .ref (ad 145)] (w_beginX l D cs ad hfl M (xs (i9 + 1)) (xs (i9 + 2)) w1) (tt_W ml_L_92 st_L_begin in_L co_L_begin) ⟨by decide, by decide, by decide⟩ ⟨Nat.le_of_ble_eq_true rfl, Nat.le_of_ble_eq_true rfl⟩ rfl rfl (Nat.le_of_ble_eq_true rfl) dL_law_174 (fun rw1 Mw qw => ?_)
    obtain ⟨rfl, hc⟩ := qw
    have e1 : Mw.1 = Mw.1 := rfl
    have e2 : Mw.2 145 0 = Mw.2 145 0 := rfl
    have eM : ∀ i, 135 ≤ i → Mw.1 i = M.1 i := eM_lk (lk_eq hc)
    have e136 : Mw.1 136 = M.1 136 := eM 136 (by decide)
    refine r_istore C [(5, .int (nI 1)), (0, .ref b9), (1, .ref (ad 117)), (2, .ref (ad 135)), (3, .ref (ad 145)), (4, .int (nI i9))] dL_law_177 (by decide) rfl ?_
    refine r_aload_n C dL_law_179 rfl 3 rfl ?_
    refine r_aload_n C dL_law_180 rfl 1 rfl ?_
    refine r_iload C dL_law_181 5 rfl ?_
    refine r_iconst C (nI 1) dL_law_183 (by decide) ?_
    refine r_iadd C dL_law_184 ?_
    refine r_topi (nI_add i9 1) ?_
    refine r_sld C hSc (by omega) hL dL_law_185 ?_
    refine r_aload_n C dL_law_186 rfl 1 rfl ?_
    refine r_iload C dL_law_187 5 rfl ?_
    refine r_iconst C (nI 2) dL_law_189 (by decide) ?_
    refine r_iadd C dL_law_190 ?_
    refine r_topi (nI_add i9 2) ?_
    refine r_sld C hSc (by omega) hL dL_law_191 ?_
    refine r_callV_i (nA := 2) C (by omega) [.int (xs (i9 + 1)), .int (xs (i9 + 2))] (c_X8_beginX l D cs ad Mw (xs (i9 + 1)) (xs (i9 + 2)) w1) (tt_V ml_L_97 im_X8_begin se_X8_begin in_X8 co_X8_begin) ⟨rfl, rfl⟩ ⟨rfl, by decide, by decide, by decide⟩ ⟨Nat.le_of_ble_eq_true rfl, Nat.le_of_ble_eq_true rfl⟩ (by decide) rfl rfl rfl rfl rfl (Nat.le_of_ble_eq_true rfl) dL_law_192 (fun ru1 Mu1 qu1 => ?_)
    obtain ⟨hr1, hm1⟩ := qu1
    have hS9 : Mu1.1 135 7 = nI 1 ∧ Mu1.2 145 0 = _ ∧ RR Mu1 := S_lk hX (lk_eq hc) e1 e2 (show SQ (mI Mw 135 7 (nI 1)) Mu1 by rw [hm1]; exact SQ.rf _)
    refine r_istore C [(6, .int ru1), (5, .int (nI 1)), (0, .ref b9), (1, .ref (ad 117)), (2, .ref (ad 135)), (3, .ref (ad 145)), (4, .int (nI i9))] dL_law_195 (by decide) rfl ?_
    refine r_aload_n C dL_law_197 rfl 4 rfl ?_
    refine r_pcallV_i (nA := 0) C (by omega) [] (c_X8_thrown l D cs ad Mu1) (tt_V ml_L_98 im_X8_thrown se_X8_thrown in_X8 co_X8_thrown) ⟨rfl, rfl⟩ ⟨rfl, by decide, by decide, by decide⟩ ⟨Nat.le_of_ble_eq_true rfl, Nat.le_of_ble_eq_true rfl⟩ (by decide) rfl rfl rfl rfl rfl (Nat.le_of_ble_eq_true rfl) dL_law_198 ?_
    refine r_topi (w := nI 1) hS9.1 ?_
    refine r_iload C dL_law_201 1 rfl ?_
    refine r_icmpN_eq C 208 dL_law_203 (by decide) (by omega) (by omega) (fun h203 => ?_) (fun h203 => ?_)
    ·
      refine r_iload C dL_law_208 1 rfl ?_
      refine r_if_ne C 225 dL_law_210 (by decide) (fun h210 => ?_) (fun h210 => ?_)
      ·
        refine r_goto C 1584 dL_law_225 (by decide) ?_
        refine r_lv (lv2 := [(0, .ref b9), (1, .ref (ad 117)), (2, .ref (ad 135)), (3, .ref (ad 145)), (4, .int (nI i9))]) [2, 3, 4, 5, 6] rfl ?_
        exact k9 _ _ hS9.2.2 (by omega)
      · exact absurd h210 (by decide)
    · exact absurd h203 (by decide)
  | true =>
    rw [Bool.and_eq_true] at w1
    obtain ⟨a, ha1, ha, p1⟩ := wit_rg (by decide) (by decide) w1.1
    obtain ⟨b, hb1, hb, p2⟩ := wit_rg (by decide) (by decide) w1.2
    refine r_aload_n C dL_law_160 rfl 1 rfl ?_
    refine r_aload_n C dL_law_161 rfl 0 rfl ?_
    refine r_iload C dL_law_162 4 rfl ?_
    refine r_iconst C (nI 1) dL_law_164 (by decide) ?_
    refine r_iadd C dL_law_165 ?_
    refine r_topi (nI_add i9 1) ?_
    refine r_sld C hSc (by omega) hL dL_law_166 ?_
    refine r_topi (w := nI a) p1 ?_
    refine r_aload_n C dL_law_167 rfl 0 rfl ?_
    refine r_iload C dL_law_168 4 rfl ?_
    refine r_iconst C (nI 2) dL_law_170 (by decide) ?_
    refine r_iadd C dL_law_171 ?_
    refine r_topi (nI_add i9 2) ?_
    refine r_sld C hSc (by omega) hL dL_law_172 ?_
    refine r_topi (w := nI b) p2 ?_
    refine r_aload_n C dL_law_173 rfl 3 rfl ?_
    refine r_wcall C hN (u1 := 0) (nA := 4) (by omega) [.ref (ad 117), .int (nI a), .int (nI b), .ref (ad 145)] (w_begin l D cs ad M (M.1 136) n d hg hn8 lt hlt hlt6 s9 hs hs6 a b ha1 ha hb1 hb) (tt_W ml_L_92 st_L_begin in_L co_L_begin) ⟨by decide, by decide, by decide⟩ ⟨Nat.le_of_ble_eq_true rfl, Nat.le_of_ble_eq_true rfl⟩ rfl rfl (Nat.le_of_ble_eq_true rfl) dL_law_174 (fun rw1 Mw qw => ?_)
    obtain ⟨rfl, v9, M9, hp9, hw9b⟩ := qw
    have e1 : Mw.1 = M9.1 := by rw [hw9b]; rfl
    have e2 : Mw.2 145 0 = v9.toInt64 := by rw [hw9b, mJ_eq, vL_e]
    obtain ⟨hvv, hc⟩ := hp9
    have eM : ∀ i, 135 ≤ i → Mw.1 i = M.1 i := fun i hi => by rw [e1]; exact (show ∀ i, 135 ≤ i → M9.1 i = M.1 i from eM_ch hlt6 hc) i hi
    have e136 : Mw.1 136 = M.1 136 := eM 136 (by decide)
    refine r_istore C [(5, .int (nI 0)), (0, .ref b9), (1, .ref (ad 117)), (2, .ref (ad 135)), (3, .ref (ad 145)), (4, .int (nI i9))] dL_law_177 (by decide) rfl ?_
    refine r_aload_n C dL_law_179 rfl 3 rfl ?_
    refine r_aload_n C dL_law_180 rfl 1 rfl ?_
    refine r_iload C dL_law_181 5 rfl ?_
    refine r_iconst C (nI 1) dL_law_183 (by decide) ?_
    refine r_iadd C dL_law_184 ?_
    refine r_topi (nI_add i9 1) ?_
    refine r_sld C hSc (by omega) hL dL_law_185 ?_
    refine r_topi (w := nI a) p1 ?_
    refine r_aload_n C dL_law_186 rfl 1 rfl ?_
    refine r_iload C dL_law_187 5 rfl ?_
    refine r_iconst C (nI 2) dL_law_189 (by decide) ?_
    refine r_iadd C dL_law_190 ?_
    refine r_topi (nI_add i9 2) ?_
    refine r_sld C hSc (by omega) hL dL_law_191 ?_
    refine r_topi (w := nI b) p2 ?_
    refine r_callV_i (nA := 2) C (by omega) [.int (nI a), .int (nI b)] (c_X8_begin l D cs ad Mw n (by rw [e136]; exact hz.1) hn8 s9 (by rw [eM 135 (by decide)]; exact hms) hs6 a b ha1 ha hb1 hb) (tt_V ml_L_97 im_X8_begin se_X8_begin in_X8 co_X8_begin) ⟨rfl, rfl⟩ ⟨rfl, by decide, by decide, by decide⟩ ⟨Nat.le_of_ble_eq_true rfl, Nat.le_of_ble_eq_true rfl⟩ (by decide) rfl rfl rfl rfl rfl (Nat.le_of_ble_eq_true rfl) dL_law_192 (fun ru1 Mu1 qu1 => ?_)
    rw [e136] at qu1
    obtain ⟨hr1, hm1⟩ := qu1
    have hS9 : Mu1.1 135 7 = nI 0 ∧ Mu1.2 145 0 = _ ∧ RR Mu1 := S_ch hX hc (gq_gz (gq_em ha1 ha hb1 hb)) (fun _ _ => rfl) (em_54 ha) e1 e2 (by rw [hm1]; exact (ms_0 Mw s9).A) (fun _ _ => rfl)
    have hv9 : Mu1.2 145 0 = ru1.toInt64 := by rw [hS9.2.1, hvv, hr1]
    refine r_istore C [(6, .int ru1), (5, .int (nI 0)), (0, .ref b9), (1, .ref (ad 117)), (2, .ref (ad 135)), (3, .ref (ad 145)), (4, .int (nI i9))] dL_law_195 (by decide) rfl ?_
    refine r_aload_n C dL_law_197 rfl 4 rfl ?_
    refine r_pcallV_i (nA := 0) C (by omega) [] (c_X8_thrown l D cs ad Mu1) (tt_V ml_L_98 im_X8_thrown se_X8_thrown in_X8 co_X8_thrown) ⟨rfl, rfl⟩ ⟨rfl, by decide, by decide, by decide⟩ ⟨Nat.le_of_ble_eq_true rfl, Nat.le_of_ble_eq_true rfl⟩ (by decide) rfl rfl rfl rfl rfl (Nat.le_of_ble_eq_true rfl) dL_law_198 ?_
    refine r_topi (w := nI 0) hS9.1 ?_
    refine r_iload C dL_law_201 1 rfl ?_
    refine r_icmpN_eq C 208 dL_law_203 (by decide) (by omega) (by omega) (fun h203 => ?_) (fun h203 => ?_)
    ·
      refine r_iload C dL_law_208 1 rfl ?_
      refine r_if_ne C 225 dL_law_210 (by decide) (fun h210 => ?_) (fun h210 => ?_)
      · exact absurd rfl h210
      ·
        refine r_aload_n C dL_law_213 rfl 5 rfl ?_
        refine r_iconst C (nI 0) dL_law_214 (by decide) ?_
        refine r_lald C (id := 145) (n := 1) (a := 0) (by decide) rfl (by decide) (by decide) dL_law_215 ?_
        refine r_topl (w := ru1.toInt64) hv9 ?_
        refine r_iload C dL_law_216 0 rfl ?_
        refine r_i2l C dL_law_218 ?_
        refine r_lcmp C dL_law_219 ?_
        refine r_if_eq C 225 dL_law_220 (by decide) (fun h220 => ?_) (fun h220 => ?_)
        ·
          rw [lgc_eq] at h220
          refine r_goto C 1584 dL_law_225 (by decide) ?_
          refine r_lv (lv2 := [(0, .ref b9), (1, .ref (ad 117)), (2, .ref (ad 135)), (3, .ref (ad 145)), (4, .int (nI i9))]) [2, 3, 4, 5, 6] rfl ?_
          exact k9 _ _ hS9.2.2 (by omega)
        · exact absurd (lgcT _) h220
    · exact absurd h203 (by decide)
set_option maxRecDepth 100000 in
set_option maxHeartbeats 4000000 in
theorem LC_join {l : Launch} {D : va_G} {cs : Nat → ClassId} {ad : Nat → Nat} {κ : Kx} {u U : Nat} {M : Mm} (C : CX D cs ad cL_law 9 RL 2048 84000 U κ) (hN : CN ad κ) (hfl : l.stackTraces = false) {b9 L i9 : Nat} {xs : Nat → Int32} (hSc : CSX ad b9 L xs κ) (hL : L ≤ 2048) (hj : i9 + 4 ≤ L) {s9 lt len n d : Nat} {ct : Nat → Nat} (hX : RX M s9 lt len ct n d) (hu : u + 1 ≤ U) (k9 : ∀ (u2 : Nat) (M2 : Mm), RR M2 → u2 ≤ u + 1 → VV l D cs ad 9 κ u2 M2 1584 [(0, .ref b9), (1, .ref (ad 117)), (2, .ref (ad 135)), (3, .ref (ad 145)), (4, .int (nI i9))] []) : VV l D cs ad 9 κ u M 228 [(0, .ref b9), (1, .ref (ad 117)), (2, .ref (ad 135)), (3, .ref (ad 145)), (4, .int (nI i9))] [] := by
  obtain ⟨hz, hg, hpm, hks, hkh, hkt, hms, hml, htx⟩ := (show RX M s9 lt len ct n d from hX)
  obtain ⟨hzn, hzd, ⟨hn1, hn8⟩, ⟨hd1, hd4⟩, ⟨mk, hk⟩, hsy, hw9, hlb, hhb, hlz, hz0⟩ := (show gz (M.1 136) n d from hz)
  obtain ⟨hlt, hlt6, hs, hs6, hhi⟩ := (show KH M (fun j p => M.1 137 (55 * j + p)) s9 lt from hkh)
  obtain ⟨hlen, hl60, hct⟩ := (show KT M ct len from hkt)
  have hm := gk_gm hn8 hk
  obtain ⟨e0, hq0⟩ := gz_gq hz
  cases w3 : (decide ((xs (i9 + 3)) = 0)) with
  | false =>
    have p3 := of_decide_eq_false w3
    cases w1 : (wit (xs (i9 + 1)) (nI 0) (nI n - nI 1)) with
    | false =>
      refine r_aload_n C dL_law_228 rfl 1 rfl ?_
      refine r_aload_n C dL_law_229 rfl 0 rfl ?_
      refine r_iload C dL_law_230 4 rfl ?_
      refine r_iconst C (nI 1) dL_law_232 (by decide) ?_
      refine r_iadd C dL_law_233 ?_
      refine r_topi (nI_add i9 1) ?_
      refine r_sld C hSc (by omega) hL dL_law_234 ?_
      refine r_aload_n C dL_law_235 rfl 0 rfl ?_
      refine r_iload C dL_law_236 4 rfl ?_
      refine r_iconst C (nI 2) dL_law_238 (by decide) ?_
      refine r_iadd C dL_law_239 ?_
      refine r_topi (nI_add i9 2) ?_
      refine r_sld C hSc (by omega) hL dL_law_240 ?_
      refine r_aload_n C dL_law_241 rfl 0 rfl ?_
      refine r_iload C dL_law_242 4 rfl ?_
      refine r_iconst C (nI 3) dL_law_244 (by decide) ?_
      refine r_iadd C dL_law_245 ?_
      refine r_topi (nI_add i9 3) ?_
      refine r_sld C hSc (by omega) hL dL_law_246 ?_
      refine r_if_eq C 254 dL_law_247 (by decide) (fun h247 => ?_) (fun h247 => ?_)
      · exact absurd h247 p3
      ·
        refine r_iconst C (nI 1) dL_law_250 (by decide) ?_
        refine r_goto C 255 dL_law_251 (by decide) ?_
        refine r_topi (w := bI true) (by decide) ?_
        refine r_aload_n C dL_law_255 rfl 3 rfl ?_
        refine r_wcall C hN (u1 := 1) (nA := 5) (by omega) [.ref (ad 117), .int (xs (i9 + 1)), .int (xs (i9 + 2)), .int (bI true), .ref (ad 145)] (w_joinX1 l D cs ad hfl M (M.1 136) n d hg hn8 hn1 (xs (i9 + 1)) (xs (i9 + 2)) true w1) (tt_W ml_L_101 st_L_join in_L co_L_join) ⟨by decide, by decide, by decide⟩ ⟨Nat.le_of_ble_eq_true rfl, Nat.le_of_ble_eq_true rfl⟩ rfl rfl (Nat.le_of_ble_eq_true rfl) dL_law_256 (fun rw1 Mw qw => ?_)
        obtain ⟨rfl, hc⟩ := qw
        have e1 : Mw.1 = Mw.1 := rfl
        have e2 : Mw.2 145 0 = Mw.2 145 0 := rfl
        have eM : ∀ i, 135 ≤ i → Mw.1 i = M.1 i := eM_lk (lk_eq hc)
        have e136 : Mw.1 136 = M.1 136 := eM 136 (by decide)
        refine r_istore C [(5, .int (nI 1)), (0, .ref b9), (1, .ref (ad 117)), (2, .ref (ad 135)), (3, .ref (ad 145)), (4, .int (nI i9))] dL_law_259 (by decide) rfl ?_
        refine r_aload_n C dL_law_261 rfl 3 rfl ?_
        refine r_aload_n C dL_law_262 rfl 1 rfl ?_
        refine r_iload C dL_law_263 5 rfl ?_
        refine r_iconst C (nI 1) dL_law_265 (by decide) ?_
        refine r_iadd C dL_law_266 ?_
        refine r_topi (nI_add i9 1) ?_
        refine r_sld C hSc (by omega) hL dL_law_267 ?_
        refine r_aload_n C dL_law_268 rfl 1 rfl ?_
        refine r_iload C dL_law_269 5 rfl ?_
        refine r_iconst C (nI 2) dL_law_271 (by decide) ?_
        refine r_iadd C dL_law_272 ?_
        refine r_topi (nI_add i9 2) ?_
        refine r_sld C hSc (by omega) hL dL_law_273 ?_
        refine r_aload_n C dL_law_274 rfl 1 rfl ?_
        refine r_iload C dL_law_275 5 rfl ?_
        refine r_iconst C (nI 3) dL_law_277 (by decide) ?_
        refine r_iadd C dL_law_278 ?_
        refine r_topi (nI_add i9 3) ?_
        refine r_sld C hSc (by omega) hL dL_law_279 ?_
        refine r_if_eq C 287 dL_law_280 (by decide) (fun h280 => ?_) (fun h280 => ?_)
        · exact absurd h280 p3
        ·
          refine r_iconst C (nI 1) dL_law_283 (by decide) ?_
          refine r_goto C 288 dL_law_284 (by decide) ?_
          refine r_topi (w := bI true) (by decide) ?_
          refine r_callV_i (nA := 3) C (by omega) [.int (xs (i9 + 1)), .int (xs (i9 + 2)), .int (bI true)] (c_X8_joinX l D cs ad Mw n (by rw [e136]; exact hz.1) hn8 (xs (i9 + 1)) (xs (i9 + 2)) true (by rw [w1]; rfl)) (tt_V ml_L_104 im_X8_join se_X8_join in_X8 co_X8_join) ⟨rfl, rfl⟩ ⟨rfl, by decide, by decide, by decide⟩ ⟨Nat.le_of_ble_eq_true rfl, Nat.le_of_ble_eq_true rfl⟩ (by decide) rfl rfl rfl rfl rfl (Nat.le_of_ble_eq_true rfl) dL_law_288 (fun ru1 Mu1 qu1 => ?_)
          obtain ⟨hr1, hm1⟩ := qu1
          have hS9 : Mu1.1 135 7 = nI 1 ∧ Mu1.2 145 0 = _ ∧ RR Mu1 := S_lk hX (lk_eq hc) e1 e2 (show SQ (mI Mw 135 7 (nI 1)) Mu1 by rw [hm1]; exact SQ.rf _)
          refine r_istore C [(6, .int ru1), (5, .int (nI 1)), (0, .ref b9), (1, .ref (ad 117)), (2, .ref (ad 135)), (3, .ref (ad 145)), (4, .int (nI i9))] dL_law_291 (by decide) rfl ?_
          refine r_aload_n C dL_law_293 rfl 4 rfl ?_
          refine r_pcallV_i (nA := 0) C (by omega) [] (c_X8_thrown l D cs ad Mu1) (tt_V ml_L_98 im_X8_thrown se_X8_thrown in_X8 co_X8_thrown) ⟨rfl, rfl⟩ ⟨rfl, by decide, by decide, by decide⟩ ⟨Nat.le_of_ble_eq_true rfl, Nat.le_of_ble_eq_true rfl⟩ (by decide) rfl rfl rfl rfl rfl (Nat.le_of_ble_eq_true rfl) dL_law_294 ?_
          refine r_topi (w := nI 1) hS9.1 ?_
          refine r_iload C dL_law_297 1 rfl ?_
          refine r_icmpN_eq C 304 dL_law_299 (by decide) (by omega) (by omega) (fun h299 => ?_) (fun h299 => ?_)
          ·
            refine r_iload C dL_law_304 1 rfl ?_
            refine r_if_ne C 321 dL_law_306 (by decide) (fun h306 => ?_) (fun h306 => ?_)
            ·
              refine r_goto C 1584 dL_law_321 (by decide) ?_
              refine r_lv (lv2 := [(0, .ref b9), (1, .ref (ad 117)), (2, .ref (ad 135)), (3, .ref (ad 145)), (4, .int (nI i9))]) [2, 3, 4, 5, 6] rfl ?_
              exact k9 _ _ hS9.2.2 (by omega)
            · exact absurd h306 (by decide)
          · exact absurd h299 (by decide)
    | true =>
      obtain ⟨a, ha, p1⟩ := wit_ex hn1 (by omega) w1
      cases w2 : (wit (xs (i9 + 2)) (nI 0) (nI n - nI 1)) with
      | false =>
        refine r_aload_n C dL_law_228 rfl 1 rfl ?_
        refine r_aload_n C dL_law_229 rfl 0 rfl ?_
        refine r_iload C dL_law_230 4 rfl ?_
        refine r_iconst C (nI 1) dL_law_232 (by decide) ?_
        refine r_iadd C dL_law_233 ?_
        refine r_topi (nI_add i9 1) ?_
        refine r_sld C hSc (by omega) hL dL_law_234 ?_
        refine r_topi (w := nI a) p1 ?_
        refine r_aload_n C dL_law_235 rfl 0 rfl ?_
        refine r_iload C dL_law_236 4 rfl ?_
        refine r_iconst C (nI 2) dL_law_238 (by decide) ?_
        refine r_iadd C dL_law_239 ?_
        refine r_topi (nI_add i9 2) ?_
        refine r_sld C hSc (by omega) hL dL_law_240 ?_
        refine r_aload_n C dL_law_241 rfl 0 rfl ?_
        refine r_iload C dL_law_242 4 rfl ?_
        refine r_iconst C (nI 3) dL_law_244 (by decide) ?_
        refine r_iadd C dL_law_245 ?_
        refine r_topi (nI_add i9 3) ?_
        refine r_sld C hSc (by omega) hL dL_law_246 ?_
        refine r_if_eq C 254 dL_law_247 (by decide) (fun h247 => ?_) (fun h247 => ?_)
        · exact absurd h247 p3
        ·
          refine r_iconst C (nI 1) dL_law_250 (by decide) ?_
          refine r_goto C 255 dL_law_251 (by decide) ?_
          refine r_topi (w := bI true) (by decide) ?_
          refine r_aload_n C dL_law_255 rfl 3 rfl ?_
          refine r_wcall C hN (u1 := 1) (nA := 5) (by omega) [.ref (ad 117), .int (nI a), .int (xs (i9 + 2)), .int (bI true), .ref (ad 145)] (w_joinX2 l D cs ad hfl M (M.1 136) n d hg hn8 hn1 a ha (xs (i9 + 2)) true w2) (tt_W ml_L_101 st_L_join in_L co_L_join) ⟨by decide, by decide, by decide⟩ ⟨Nat.le_of_ble_eq_true rfl, Nat.le_of_ble_eq_true rfl⟩ rfl rfl (Nat.le_of_ble_eq_true rfl) dL_law_256 (fun rw1 Mw qw => ?_)
          obtain ⟨rfl, hc⟩ := qw
          have e1 : Mw.1 = Mw.1 := rfl
          have e2 : Mw.2 145 0 = Mw.2 145 0 := rfl
          have eM : ∀ i, 135 ≤ i → Mw.1 i = M.1 i := eM_lk (lk_eq hc)
          have e136 : Mw.1 136 = M.1 136 := eM 136 (by decide)
          refine r_istore C [(5, .int (nI 1)), (0, .ref b9), (1, .ref (ad 117)), (2, .ref (ad 135)), (3, .ref (ad 145)), (4, .int (nI i9))] dL_law_259 (by decide) rfl ?_
          refine r_aload_n C dL_law_261 rfl 3 rfl ?_
          refine r_aload_n C dL_law_262 rfl 1 rfl ?_
          refine r_iload C dL_law_263 5 rfl ?_
          refine r_iconst C (nI 1) dL_law_265 (by decide) ?_
          refine r_iadd C dL_law_266 ?_
          refine r_topi (nI_add i9 1) ?_
          refine r_sld C hSc (by omega) hL dL_law_267 ?_
          refine r_topi (w := nI a) p1 ?_
          refine r_aload_n C dL_law_268 rfl 1 rfl ?_
          refine r_iload C dL_law_269 5 rfl ?_
          refine r_iconst C (nI 2) dL_law_271 (by decide) ?_
          refine r_iadd C dL_law_272 ?_
          refine r_topi (nI_add i9 2) ?_
          refine r_sld C hSc (by omega) hL dL_law_273 ?_
          refine r_aload_n C dL_law_274 rfl 1 rfl ?_
          refine r_iload C dL_law_275 5 rfl ?_
          refine r_iconst C (nI 3) dL_law_277 (by decide) ?_
          refine r_iadd C dL_law_278 ?_
          refine r_topi (nI_add i9 3) ?_
          refine r_sld C hSc (by omega) hL dL_law_279 ?_
          refine r_if_eq C 287 dL_law_280 (by decide) (fun h280 => ?_) (fun h280 => ?_)
          · exact absurd h280 p3
          ·
            refine r_iconst C (nI 1) dL_law_283 (by decide) ?_
            refine r_goto C 288 dL_law_284 (by decide) ?_
            refine r_topi (w := bI true) (by decide) ?_
            refine r_callV_i (nA := 3) C (by omega) [.int (nI a), .int (xs (i9 + 2)), .int (bI true)] (c_X8_joinX l D cs ad Mw n (by rw [e136]; exact hz.1) hn8 (nI a) (xs (i9 + 2)) true (by rw [w2, Bool.and_false])) (tt_V ml_L_104 im_X8_join se_X8_join in_X8 co_X8_join) ⟨rfl, rfl⟩ ⟨rfl, by decide, by decide, by decide⟩ ⟨Nat.le_of_ble_eq_true rfl, Nat.le_of_ble_eq_true rfl⟩ (by decide) rfl rfl rfl rfl rfl (Nat.le_of_ble_eq_true rfl) dL_law_288 (fun ru1 Mu1 qu1 => ?_)
            obtain ⟨hr1, hm1⟩ := qu1
            have hS9 : Mu1.1 135 7 = nI 1 ∧ Mu1.2 145 0 = _ ∧ RR Mu1 := S_lk hX (lk_eq hc) e1 e2 (show SQ (mI Mw 135 7 (nI 1)) Mu1 by rw [hm1]; exact SQ.rf _)
            refine r_istore C [(6, .int ru1), (5, .int (nI 1)), (0, .ref b9), (1, .ref (ad 117)), (2, .ref (ad 135)), (3, .ref (ad 145)), (4, .int (nI i9))] dL_law_291 (by decide) rfl ?_
            refine r_aload_n C dL_law_293 rfl 4 rfl ?_
            refine r_pcallV_i (nA := 0) C (by omega) [] (c_X8_thrown l D cs ad Mu1) (tt_V ml_L_98 im_X8_thrown se_X8_thrown in_X8 co_X8_thrown) ⟨rfl, rfl⟩ ⟨rfl, by decide, by decide, by decide⟩ ⟨Nat.le_of_ble_eq_true rfl, Nat.le_of_ble_eq_true rfl⟩ (by decide) rfl rfl rfl rfl rfl (Nat.le_of_ble_eq_true rfl) dL_law_294 ?_
            refine r_topi (w := nI 1) hS9.1 ?_
            refine r_iload C dL_law_297 1 rfl ?_
            refine r_icmpN_eq C 304 dL_law_299 (by decide) (by omega) (by omega) (fun h299 => ?_) (fun h299 => ?_)
            ·
              refine r_iload C dL_law_304 1 rfl ?_
              refine r_if_ne C 321 dL_law_306 (by decide) (fun h306 => ?_) (fun h306 => ?_)
              ·
                refine r_goto C 1584 dL_law_321 (by decide) ?_
                refine r_lv (lv2 := [(0, .ref b9), (1, .ref (ad 117)), (2, .ref (ad 135)), (3, .ref (ad 145)), (4, .int (nI i9))]) [2, 3, 4, 5, 6] rfl ?_
                exact k9 _ _ hS9.2.2 (by omega)
              · exact absurd h306 (by decide)
            · exact absurd h299 (by decide)
      | true =>
        obtain ⟨b, hb, p2⟩ := wit_ex hn1 (by omega) w2
        by_cases hab : a = b
        ·
          subst hab
          refine r_aload_n C dL_law_228 rfl 1 rfl ?_
          refine r_aload_n C dL_law_229 rfl 0 rfl ?_
          refine r_iload C dL_law_230 4 rfl ?_
          refine r_iconst C (nI 1) dL_law_232 (by decide) ?_
          refine r_iadd C dL_law_233 ?_
          refine r_topi (nI_add i9 1) ?_
          refine r_sld C hSc (by omega) hL dL_law_234 ?_
          refine r_topi (w := nI a) p1 ?_
          refine r_aload_n C dL_law_235 rfl 0 rfl ?_
          refine r_iload C dL_law_236 4 rfl ?_
          refine r_iconst C (nI 2) dL_law_238 (by decide) ?_
          refine r_iadd C dL_law_239 ?_
          refine r_topi (nI_add i9 2) ?_
          refine r_sld C hSc (by omega) hL dL_law_240 ?_
          refine r_topi (w := nI a) p2 ?_
          refine r_aload_n C dL_law_241 rfl 0 rfl ?_
          refine r_iload C dL_law_242 4 rfl ?_
          refine r_iconst C (nI 3) dL_law_244 (by decide) ?_
          refine r_iadd C dL_law_245 ?_
          refine r_topi (nI_add i9 3) ?_
          refine r_sld C hSc (by omega) hL dL_law_246 ?_
          refine r_if_eq C 254 dL_law_247 (by decide) (fun h247 => ?_) (fun h247 => ?_)
          · exact absurd h247 p3
          ·
            refine r_iconst C (nI 1) dL_law_250 (by decide) ?_
            refine r_goto C 255 dL_law_251 (by decide) ?_
            refine r_topi (w := bI true) (by decide) ?_
            refine r_aload_n C dL_law_255 rfl 3 rfl ?_
            refine r_wcall C hN (u1 := 1) (nA := 5) (by omega) [.ref (ad 117), .int (nI a), .int (nI a), .int (bI true), .ref (ad 145)] (w_joinY l D cs ad hfl M (M.1 136) n d hg hn8 a ha true) (tt_W ml_L_101 st_L_join in_L co_L_join) ⟨by decide, by decide, by decide⟩ ⟨Nat.le_of_ble_eq_true rfl, Nat.le_of_ble_eq_true rfl⟩ rfl rfl (Nat.le_of_ble_eq_true rfl) dL_law_256 (fun rw1 Mw qw => ?_)
            obtain ⟨rfl, hc⟩ := qw
            have e1 : Mw.1 = Mw.1 := rfl
            have e2 : Mw.2 145 0 = Mw.2 145 0 := rfl
            have eM : ∀ i, 135 ≤ i → Mw.1 i = M.1 i := eM_lk (lk_eq hc)
            have e136 : Mw.1 136 = M.1 136 := eM 136 (by decide)
            refine r_istore C [(5, .int (nI 2)), (0, .ref b9), (1, .ref (ad 117)), (2, .ref (ad 135)), (3, .ref (ad 145)), (4, .int (nI i9))] dL_law_259 (by decide) rfl ?_
            refine r_aload_n C dL_law_261 rfl 3 rfl ?_
            refine r_aload_n C dL_law_262 rfl 1 rfl ?_
            refine r_iload C dL_law_263 5 rfl ?_
            refine r_iconst C (nI 1) dL_law_265 (by decide) ?_
            refine r_iadd C dL_law_266 ?_
            refine r_topi (nI_add i9 1) ?_
            refine r_sld C hSc (by omega) hL dL_law_267 ?_
            refine r_topi (w := nI a) p1 ?_
            refine r_aload_n C dL_law_268 rfl 1 rfl ?_
            refine r_iload C dL_law_269 5 rfl ?_
            refine r_iconst C (nI 2) dL_law_271 (by decide) ?_
            refine r_iadd C dL_law_272 ?_
            refine r_topi (nI_add i9 2) ?_
            refine r_sld C hSc (by omega) hL dL_law_273 ?_
            refine r_topi (w := nI a) p2 ?_
            refine r_aload_n C dL_law_274 rfl 1 rfl ?_
            refine r_iload C dL_law_275 5 rfl ?_
            refine r_iconst C (nI 3) dL_law_277 (by decide) ?_
            refine r_iadd C dL_law_278 ?_
            refine r_topi (nI_add i9 3) ?_
            refine r_sld C hSc (by omega) hL dL_law_279 ?_
            refine r_if_eq C 287 dL_law_280 (by decide) (fun h280 => ?_) (fun h280 => ?_)
            · exact absurd h280 p3
            ·
              refine r_iconst C (nI 1) dL_law_283 (by decide) ?_
              refine r_goto C 288 dL_law_284 (by decide) ?_
              refine r_topi (w := bI true) (by decide) ?_
              refine r_callV_i (nA := 3) C (by omega) [.int (nI a), .int (nI a), .int (bI true)] (c_X8_joinY l D cs ad Mw n (by rw [e136]; exact hz.1) hn8 a true ha) (tt_V ml_L_104 im_X8_join se_X8_join in_X8 co_X8_join) ⟨rfl, rfl⟩ ⟨rfl, by decide, by decide, by decide⟩ ⟨Nat.le_of_ble_eq_true rfl, Nat.le_of_ble_eq_true rfl⟩ (by decide) rfl rfl rfl rfl rfl (Nat.le_of_ble_eq_true rfl) dL_law_288 (fun ru1 Mu1 qu1 => ?_)
              obtain ⟨hr1, hm1⟩ := qu1
              have hS9 : Mu1.1 135 7 = nI 2 ∧ Mu1.2 145 0 = _ ∧ RR Mu1 := S_lk hX (lk_eq hc) e1 e2 (show SQ (mI Mw 135 7 (nI 2)) Mu1 by rw [hm1]; exact SQ.rf _)
              refine r_istore C [(6, .int ru1), (5, .int (nI 2)), (0, .ref b9), (1, .ref (ad 117)), (2, .ref (ad 135)), (3, .ref (ad 145)), (4, .int (nI i9))] dL_law_291 (by decide) rfl ?_
              refine r_aload_n C dL_law_293 rfl 4 rfl ?_
              refine r_pcallV_i (nA := 0) C (by omega) [] (c_X8_thrown l D cs ad Mu1) (tt_V ml_L_98 im_X8_thrown se_X8_thrown in_X8 co_X8_thrown) ⟨rfl, rfl⟩ ⟨rfl, by decide, by decide, by decide⟩ ⟨Nat.le_of_ble_eq_true rfl, Nat.le_of_ble_eq_true rfl⟩ (by decide) rfl rfl rfl rfl rfl (Nat.le_of_ble_eq_true rfl) dL_law_294 ?_
              refine r_topi (w := nI 2) hS9.1 ?_
              refine r_iload C dL_law_297 1 rfl ?_
              refine r_icmpN_eq C 304 dL_law_299 (by decide) (by omega) (by omega) (fun h299 => ?_) (fun h299 => ?_)
              ·
                refine r_iload C dL_law_304 1 rfl ?_
                refine r_if_ne C 321 dL_law_306 (by decide) (fun h306 => ?_) (fun h306 => ?_)
                ·
                  refine r_goto C 1584 dL_law_321 (by decide) ?_
                  refine r_lv (lv2 := [(0, .ref b9), (1, .ref (ad 117)), (2, .ref (ad 135)), (3, .ref (ad 145)), (4, .int (nI i9))]) [2, 3, 4, 5, 6] rfl ?_
                  exact k9 _ _ hS9.2.2 (by omega)
                · exact absurd h306 (by decide)
              · exact absurd h299 (by decide)
        ·
          refine r_aload_n C dL_law_228 rfl 1 rfl ?_
          refine r_aload_n C dL_law_229 rfl 0 rfl ?_
          refine r_iload C dL_law_230 4 rfl ?_
          refine r_iconst C (nI 1) dL_law_232 (by decide) ?_
          refine r_iadd C dL_law_233 ?_
          refine r_topi (nI_add i9 1) ?_
          refine r_sld C hSc (by omega) hL dL_law_234 ?_
          refine r_topi (w := nI a) p1 ?_
          refine r_aload_n C dL_law_235 rfl 0 rfl ?_
          refine r_iload C dL_law_236 4 rfl ?_
          refine r_iconst C (nI 2) dL_law_238 (by decide) ?_
          refine r_iadd C dL_law_239 ?_
          refine r_topi (nI_add i9 2) ?_
          refine r_sld C hSc (by omega) hL dL_law_240 ?_
          refine r_topi (w := nI b) p2 ?_
          refine r_aload_n C dL_law_241 rfl 0 rfl ?_
          refine r_iload C dL_law_242 4 rfl ?_
          refine r_iconst C (nI 3) dL_law_244 (by decide) ?_
          refine r_iadd C dL_law_245 ?_
          refine r_topi (nI_add i9 3) ?_
          refine r_sld C hSc (by omega) hL dL_law_246 ?_
          refine r_if_eq C 254 dL_law_247 (by decide) (fun h247 => ?_) (fun h247 => ?_)
          · exact absurd h247 p3
          ·
            refine r_iconst C (nI 1) dL_law_250 (by decide) ?_
            refine r_goto C 255 dL_law_251 (by decide) ?_
            refine r_topi (w := bI true) (by decide) ?_
            refine r_aload_n C dL_law_255 rfl 3 rfl ?_
            refine r_wcall C hN (u1 := 0) (nA := 5) (by omega) [.ref (ad 117), .int (nI a), .int (nI b), .int (bI true), .ref (ad 145)] (w_join l D cs ad M (M.1 136) n d hg hn8 lt hlt hlt6 s9 hs hs6 a b true ha hb hab (gz_gm (gq_gz (gq_jo (t := true) hq0 ha hb hab)))) (tt_W ml_L_101 st_L_join in_L co_L_join) ⟨by decide, by decide, by decide⟩ ⟨Nat.le_of_ble_eq_true rfl, Nat.le_of_ble_eq_true rfl⟩ rfl rfl (Nat.le_of_ble_eq_true rfl) dL_law_256 (fun rw1 Mw qw => ?_)
            obtain ⟨rfl, v9, M9, hp9, hw9b⟩ := qw
            have e1 : Mw.1 = M9.1 := by rw [hw9b]; rfl
            have e2 : Mw.2 145 0 = v9.toInt64 := by rw [hw9b, mJ_eq, vL_e]
            obtain ⟨hvv, hc⟩ := hp9
            have eM : ∀ i, 135 ≤ i → Mw.1 i = M.1 i := fun i hi => by rw [e1]; exact (show ∀ i, 135 ≤ i → M9.1 i = M.1 i from eM_ch hlt6 hc) i hi
            have e136 : Mw.1 136 = M.1 136 := eM 136 (by decide)
            refine r_istore C [(5, .int (nI 0)), (0, .ref b9), (1, .ref (ad 117)), (2, .ref (ad 135)), (3, .ref (ad 145)), (4, .int (nI i9))] dL_law_259 (by decide) rfl ?_
            refine r_aload_n C dL_law_261 rfl 3 rfl ?_
            refine r_aload_n C dL_law_262 rfl 1 rfl ?_
            refine r_iload C dL_law_263 5 rfl ?_
            refine r_iconst C (nI 1) dL_law_265 (by decide) ?_
            refine r_iadd C dL_law_266 ?_
            refine r_topi (nI_add i9 1) ?_
            refine r_sld C hSc (by omega) hL dL_law_267 ?_
            refine r_topi (w := nI a) p1 ?_
            refine r_aload_n C dL_law_268 rfl 1 rfl ?_
            refine r_iload C dL_law_269 5 rfl ?_
            refine r_iconst C (nI 2) dL_law_271 (by decide) ?_
            refine r_iadd C dL_law_272 ?_
            refine r_topi (nI_add i9 2) ?_
            refine r_sld C hSc (by omega) hL dL_law_273 ?_
            refine r_topi (w := nI b) p2 ?_
            refine r_aload_n C dL_law_274 rfl 1 rfl ?_
            refine r_iload C dL_law_275 5 rfl ?_
            refine r_iconst C (nI 3) dL_law_277 (by decide) ?_
            refine r_iadd C dL_law_278 ?_
            refine r_topi (nI_add i9 3) ?_
            refine r_sld C hSc (by omega) hL dL_law_279 ?_
            refine r_if_eq C 287 dL_law_280 (by decide) (fun h280 => ?_) (fun h280 => ?_)
            · exact absurd h280 p3
            ·
              refine r_iconst C (nI 1) dL_law_283 (by decide) ?_
              refine r_goto C 288 dL_law_284 (by decide) ?_
              refine r_topi (w := bI true) (by decide) ?_
              refine r_callV_i (nA := 3) C (by omega) [.int (nI a), .int (nI b), .int (bI true)] (c_X8_join l D cs ad Mw n (by rw [e136]; exact hz.1) hn8 s9 (by rw [eM 135 (by decide)]; exact hms) hs6 a b true ha hb hab) (tt_V ml_L_104 im_X8_join se_X8_join in_X8 co_X8_join) ⟨rfl, rfl⟩ ⟨rfl, by decide, by decide, by decide⟩ ⟨Nat.le_of_ble_eq_true rfl, Nat.le_of_ble_eq_true rfl⟩ (by decide) rfl rfl rfl rfl rfl (Nat.le_of_ble_eq_true rfl) dL_law_288 (fun ru1 Mu1 qu1 => ?_)
              rw [e136] at qu1
              obtain ⟨hr1, hm1⟩ := qu1
              have hS9 : Mu1.1 135 7 = nI 0 ∧ Mu1.2 145 0 = _ ∧ RR Mu1 := S_ch hX hc (gq_gz (gq_jo (t := true) hq0 ha hb hab)) (fun _ _ => rfl) (jo_54 (by omega) (by omega)) e1 e2 (by rw [hm1]; exact (ms_0 Mw s9).A) (fun _ _ => rfl)
              have hv9 : Mu1.2 145 0 = ru1.toInt64 := by rw [hS9.2.1, hvv, hr1]
              refine r_istore C [(6, .int ru1), (5, .int (nI 0)), (0, .ref b9), (1, .ref (ad 117)), (2, .ref (ad 135)), (3, .ref (ad 145)), (4, .int (nI i9))] dL_law_291 (by decide) rfl ?_
              refine r_aload_n C dL_law_293 rfl 4 rfl ?_
              refine r_pcallV_i (nA := 0) C (by omega) [] (c_X8_thrown l D cs ad Mu1) (tt_V ml_L_98 im_X8_thrown se_X8_thrown in_X8 co_X8_thrown) ⟨rfl, rfl⟩ ⟨rfl, by decide, by decide, by decide⟩ ⟨Nat.le_of_ble_eq_true rfl, Nat.le_of_ble_eq_true rfl⟩ (by decide) rfl rfl rfl rfl rfl (Nat.le_of_ble_eq_true rfl) dL_law_294 ?_
              refine r_topi (w := nI 0) hS9.1 ?_
              refine r_iload C dL_law_297 1 rfl ?_
              refine r_icmpN_eq C 304 dL_law_299 (by decide) (by omega) (by omega) (fun h299 => ?_) (fun h299 => ?_)
              ·
                refine r_iload C dL_law_304 1 rfl ?_
                refine r_if_ne C 321 dL_law_306 (by decide) (fun h306 => ?_) (fun h306 => ?_)
                · exact absurd rfl h306
                ·
                  refine r_aload_n C dL_law_309 rfl 5 rfl ?_
                  refine r_iconst C (nI 0) dL_law_310 (by decide) ?_
                  refine r_lald C (id := 145) (n := 1) (a := 0) (by decide) rfl (by decide) (by decide) dL_law_311 ?_
                  refine r_topl (w := ru1.toInt64) hv9 ?_
                  refine r_iload C dL_law_312 0 rfl ?_
                  refine r_i2l C dL_law_314 ?_
                  refine r_lcmp C dL_law_315 ?_
                  refine r_if_eq C 321 dL_law_316 (by decide) (fun h316 => ?_) (fun h316 => ?_)
                  ·
                    rw [lgc_eq] at h316
                    refine r_goto C 1584 dL_law_321 (by decide) ?_
                    refine r_lv (lv2 := [(0, .ref b9), (1, .ref (ad 117)), (2, .ref (ad 135)), (3, .ref (ad 145)), (4, .int (nI i9))]) [2, 3, 4, 5, 6] rfl ?_
                    exact k9 _ _ hS9.2.2 (by omega)
                  · exact absurd (lgcT _) h316
              · exact absurd h299 (by decide)
  | true =>
    have p3 := of_decide_eq_true w3
    cases w1 : (wit (xs (i9 + 1)) (nI 0) (nI n - nI 1)) with
    | false =>
      refine r_aload_n C dL_law_228 rfl 1 rfl ?_
      refine r_aload_n C dL_law_229 rfl 0 rfl ?_
      refine r_iload C dL_law_230 4 rfl ?_
      refine r_iconst C (nI 1) dL_law_232 (by decide) ?_
      refine r_iadd C dL_law_233 ?_
      refine r_topi (nI_add i9 1) ?_
      refine r_sld C hSc (by omega) hL dL_law_234 ?_
      refine r_aload_n C dL_law_235 rfl 0 rfl ?_
      refine r_iload C dL_law_236 4 rfl ?_
      refine r_iconst C (nI 2) dL_law_238 (by decide) ?_
      refine r_iadd C dL_law_239 ?_
      refine r_topi (nI_add i9 2) ?_
      refine r_sld C hSc (by omega) hL dL_law_240 ?_
      refine r_aload_n C dL_law_241 rfl 0 rfl ?_
      refine r_iload C dL_law_242 4 rfl ?_
      refine r_iconst C (nI 3) dL_law_244 (by decide) ?_
      refine r_iadd C dL_law_245 ?_
      refine r_topi (nI_add i9 3) ?_
      refine r_sld C hSc (by omega) hL dL_law_246 ?_
      refine r_if_eq C 254 dL_law_247 (by decide) (fun h247 => ?_) (fun h247 => ?_)
      ·
        refine r_iconst C (nI 0) dL_law_254 (by decide) ?_
        refine r_topi (w := bI false) (by decide) ?_
        refine r_aload_n C dL_law_255 rfl 3 rfl ?_
        refine r_wcall C hN (u1 := 1) (nA := 5) (by omega) [.ref (ad 117), .int (xs (i9 + 1)), .int (xs (i9 + 2)), .int (bI false), .ref (ad 145)] (w_joinX1 l D cs ad hfl M (M.1 136) n d hg hn8 hn1 (xs (i9 + 1)) (xs (i9 + 2)) false w1) (tt_W ml_L_101 st_L_join in_L co_L_join) ⟨by decide, by decide, by decide⟩ ⟨Nat.le_of_ble_eq_true rfl, Nat.le_of_ble_eq_true rfl⟩ rfl rfl (Nat.le_of_ble_eq_true rfl) dL_law_256 (fun rw1 Mw qw => ?_)
        obtain ⟨rfl, hc⟩ := qw
        have e1 : Mw.1 = Mw.1 := rfl
        have e2 : Mw.2 145 0 = Mw.2 145 0 := rfl
        have eM : ∀ i, 135 ≤ i → Mw.1 i = M.1 i := eM_lk (lk_eq hc)
        have e136 : Mw.1 136 = M.1 136 := eM 136 (by decide)
        refine r_istore C [(5, .int (nI 1)), (0, .ref b9), (1, .ref (ad 117)), (2, .ref (ad 135)), (3, .ref (ad 145)), (4, .int (nI i9))] dL_law_259 (by decide) rfl ?_
        refine r_aload_n C dL_law_261 rfl 3 rfl ?_
        refine r_aload_n C dL_law_262 rfl 1 rfl ?_
        refine r_iload C dL_law_263 5 rfl ?_
        refine r_iconst C (nI 1) dL_law_265 (by decide) ?_
        refine r_iadd C dL_law_266 ?_
        refine r_topi (nI_add i9 1) ?_
        refine r_sld C hSc (by omega) hL dL_law_267 ?_
        refine r_aload_n C dL_law_268 rfl 1 rfl ?_
        refine r_iload C dL_law_269 5 rfl ?_
        refine r_iconst C (nI 2) dL_law_271 (by decide) ?_
        refine r_iadd C dL_law_272 ?_
        refine r_topi (nI_add i9 2) ?_
        refine r_sld C hSc (by omega) hL dL_law_273 ?_
        refine r_aload_n C dL_law_274 rfl 1 rfl ?_
        refine r_iload C dL_law_275 5 rfl ?_
        refine r_iconst C (nI 3) dL_law_277 (by decide) ?_
        refine r_iadd C dL_law_278 ?_
        refine r_topi (nI_add i9 3) ?_
        refine r_sld C hSc (by omega) hL dL_law_279 ?_
        refine r_if_eq C 287 dL_law_280 (by decide) (fun h280 => ?_) (fun h280 => ?_)
        ·
          refine r_iconst C (nI 0) dL_law_287 (by decide) ?_
          refine r_topi (w := bI false) (by decide) ?_
          refine r_callV_i (nA := 3) C (by omega) [.int (xs (i9 + 1)), .int (xs (i9 + 2)), .int (bI false)] (c_X8_joinX l D cs ad Mw n (by rw [e136]; exact hz.1) hn8 (xs (i9 + 1)) (xs (i9 + 2)) false (by rw [w1]; rfl)) (tt_V ml_L_104 im_X8_join se_X8_join in_X8 co_X8_join) ⟨rfl, rfl⟩ ⟨rfl, by decide, by decide, by decide⟩ ⟨Nat.le_of_ble_eq_true rfl, Nat.le_of_ble_eq_true rfl⟩ (by decide) rfl rfl rfl rfl rfl (Nat.le_of_ble_eq_true rfl) dL_law_288 (fun ru1 Mu1 qu1 => ?_)
          obtain ⟨hr1, hm1⟩ := qu1
          have hS9 : Mu1.1 135 7 = nI 1 ∧ Mu1.2 145 0 = _ ∧ RR Mu1 := S_lk hX (lk_eq hc) e1 e2 (show SQ (mI Mw 135 7 (nI 1)) Mu1 by rw [hm1]; exact SQ.rf _)
          refine r_istore C [(6, .int ru1), (5, .int (nI 1)), (0, .ref b9), (1, .ref (ad 117)), (2, .ref (ad 135)), (3, .ref (ad 145)), (4, .int (nI i9))] dL_law_291 (by decide) rfl ?_
          refine r_aload_n C dL_law_293 rfl 4 rfl ?_
          refine r_pcallV_i (nA := 0) C (by omega) [] (c_X8_thrown l D cs ad Mu1) (tt_V ml_L_98 im_X8_thrown se_X8_thrown in_X8 co_X8_thrown) ⟨rfl, rfl⟩ ⟨rfl, by decide, by decide, by decide⟩ ⟨Nat.le_of_ble_eq_true rfl, Nat.le_of_ble_eq_true rfl⟩ (by decide) rfl rfl rfl rfl rfl (Nat.le_of_ble_eq_true rfl) dL_law_294 ?_
          refine r_topi (w := nI 1) hS9.1 ?_
          refine r_iload C dL_law_297 1 rfl ?_
          refine r_icmpN_eq C 304 dL_law_299 (by decide) (by omega) (by omega) (fun h299 => ?_) (fun h299 => ?_)
          ·
            refine r_iload C dL_law_304 1 rfl ?_
            refine r_if_ne C 321 dL_law_306 (by decide) (fun h306 => ?_) (fun h306 => ?_)
            ·
              refine r_goto C 1584 dL_law_321 (by decide) ?_
              refine r_lv (lv2 := [(0, .ref b9), (1, .ref (ad 117)), (2, .ref (ad 135)), (3, .ref (ad 145)), (4, .int (nI i9))]) [2, 3, 4, 5, 6] rfl ?_
              exact k9 _ _ hS9.2.2 (by omega)
            · exact absurd h306 (by decide)
          · exact absurd h299 (by decide)
        · exact absurd p3 h280
      · exact absurd p3 h247
    | true =>
      obtain ⟨a, ha, p1⟩ := wit_ex hn1 (by omega) w1
      cases w2 : (wit (xs (i9 + 2)) (nI 0) (nI n - nI 1)) with
      | false =>
        refine r_aload_n C dL_law_228 rfl 1 rfl ?_
        refine r_aload_n C dL_law_229 rfl 0 rfl ?_
        refine r_iload C dL_law_230 4 rfl ?_
        refine r_iconst C (nI 1) dL_law_232 (by decide) ?_
        refine r_iadd C dL_law_233 ?_
        refine r_topi (nI_add i9 1) ?_
        refine r_sld C hSc (by omega) hL dL_law_234 ?_
        refine r_topi (w := nI a) p1 ?_
        refine r_aload_n C dL_law_235 rfl 0 rfl ?_
        refine r_iload C dL_law_236 4 rfl ?_
        refine r_iconst C (nI 2) dL_law_238 (by decide) ?_
        refine r_iadd C dL_law_239 ?_
        refine r_topi (nI_add i9 2) ?_
        refine r_sld C hSc (by omega) hL dL_law_240 ?_
        refine r_aload_n C dL_law_241 rfl 0 rfl ?_
        refine r_iload C dL_law_242 4 rfl ?_
        refine r_iconst C (nI 3) dL_law_244 (by decide) ?_
        refine r_iadd C dL_law_245 ?_
        refine r_topi (nI_add i9 3) ?_
        refine r_sld C hSc (by omega) hL dL_law_246 ?_
        refine r_if_eq C 254 dL_law_247 (by decide) (fun h247 => ?_) (fun h247 => ?_)
        ·
          refine r_iconst C (nI 0) dL_law_254 (by decide) ?_
          refine r_topi (w := bI false) (by decide) ?_
          refine r_aload_n C dL_law_255 rfl 3 rfl ?_
          refine r_wcall C hN (u1 := 1) (nA := 5) (by omega) [.ref (ad 117), .int (nI a), .int (xs (i9 + 2)), .int (bI false), .ref (ad 145)] (w_joinX2 l D cs ad hfl M (M.1 136) n d hg hn8 hn1 a ha (xs (i9 + 2)) false w2) (tt_W ml_L_101 st_L_join in_L co_L_join) ⟨by decide, by decide, by decide⟩ ⟨Nat.le_of_ble_eq_true rfl, Nat.le_of_ble_eq_true rfl⟩ rfl rfl (Nat.le_of_ble_eq_true rfl) dL_law_256 (fun rw1 Mw qw => ?_)
          obtain ⟨rfl, hc⟩ := qw
          have e1 : Mw.1 = Mw.1 := rfl
          have e2 : Mw.2 145 0 = Mw.2 145 0 := rfl
          have eM : ∀ i, 135 ≤ i → Mw.1 i = M.1 i := eM_lk (lk_eq hc)
          have e136 : Mw.1 136 = M.1 136 := eM 136 (by decide)
          refine r_istore C [(5, .int (nI 1)), (0, .ref b9), (1, .ref (ad 117)), (2, .ref (ad 135)), (3, .ref (ad 145)), (4, .int (nI i9))] dL_law_259 (by decide) rfl ?_
          refine r_aload_n C dL_law_261 rfl 3 rfl ?_
          refine r_aload_n C dL_law_262 rfl 1 rfl ?_
          refine r_iload C dL_law_263 5 rfl ?_
          refine r_iconst C (nI 1) dL_law_265 (by decide) ?_
          refine r_iadd C dL_law_266 ?_
          refine r_topi (nI_add i9 1) ?_
          refine r_sld C hSc (by omega) hL dL_law_267 ?_
          refine r_topi (w := nI a) p1 ?_
          refine r_aload_n C dL_law_268 rfl 1 rfl ?_
          refine r_iload C dL_law_269 5 rfl ?_
          refine r_iconst C (nI 2) dL_law_271 (by decide) ?_
          refine r_iadd C dL_law_272 ?_
          refine r_topi (nI_add i9 2) ?_
          refine r_sld C hSc (by omega) hL dL_law_273 ?_
          refine r_aload_n C dL_law_274 rfl 1 rfl ?_
          refine r_iload C dL_law_275 5 rfl ?_
          refine r_iconst C (nI 3) dL_law_277 (by decide) ?_
          refine r_iadd C dL_law_278 ?_
          refine r_topi (nI_add i9 3) ?_
          refine r_sld C hSc (by omega) hL dL_law_279 ?_
          refine r_if_eq C 287 dL_law_280 (by decide) (fun h280 => ?_) (fun h280 => ?_)
          ·
            refine r_iconst C (nI 0) dL_law_287 (by decide) ?_
            refine r_topi (w := bI false) (by decide) ?_
            refine r_callV_i (nA := 3) C (by omega) [.int (nI a), .int (xs (i9 + 2)), .int (bI false)] (c_X8_joinX l D cs ad Mw n (by rw [e136]; exact hz.1) hn8 (nI a) (xs (i9 + 2)) false (by rw [w2, Bool.and_false])) (tt_V ml_L_104 im_X8_join se_X8_join in_X8 co_X8_join) ⟨rfl, rfl⟩ ⟨rfl, by decide, by decide, by decide⟩ ⟨Nat.le_of_ble_eq_true rfl, Nat.le_of_ble_eq_true rfl⟩ (by decide) rfl rfl rfl rfl rfl (Nat.le_of_ble_eq_true rfl) dL_law_288 (fun ru1 Mu1 qu1 => ?_)
            obtain ⟨hr1, hm1⟩ := qu1
            have hS9 : Mu1.1 135 7 = nI 1 ∧ Mu1.2 145 0 = _ ∧ RR Mu1 := S_lk hX (lk_eq hc) e1 e2 (show SQ (mI Mw 135 7 (nI 1)) Mu1 by rw [hm1]; exact SQ.rf _)
            refine r_istore C [(6, .int ru1), (5, .int (nI 1)), (0, .ref b9), (1, .ref (ad 117)), (2, .ref (ad 135)), (3, .ref (ad 145)), (4, .int (nI i9))] dL_law_291 (by decide) rfl ?_
            refine r_aload_n C dL_law_293 rfl 4 rfl ?_
            refine r_pcallV_i (nA := 0) C (by omega) [] (c_X8_thrown l D cs ad Mu1) (tt_V ml_L_98 im_X8_thrown se_X8_thrown in_X8 co_X8_thrown) ⟨rfl, rfl⟩ ⟨rfl, by decide, by decide, by decide⟩ ⟨Nat.le_of_ble_eq_true rfl, Nat.le_of_ble_eq_true rfl⟩ (by decide) rfl rfl rfl rfl rfl (Nat.le_of_ble_eq_true rfl) dL_law_294 ?_
            refine r_topi (w := nI 1) hS9.1 ?_
            refine r_iload C dL_law_297 1 rfl ?_
            refine r_icmpN_eq C 304 dL_law_299 (by decide) (by omega) (by omega) (fun h299 => ?_) (fun h299 => ?_)
            ·
              refine r_iload C dL_law_304 1 rfl ?_
              refine r_if_ne C 321 dL_law_306 (by decide) (fun h306 => ?_) (fun h306 => ?_)
              ·
                refine r_goto C 1584 dL_law_321 (by decide) ?_
                refine r_lv (lv2 := [(0, .ref b9), (1, .ref (ad 117)), (2, .ref (ad 135)), (3, .ref (ad 145)), (4, .int (nI i9))]) [2, 3, 4, 5, 6] rfl ?_
                exact k9 _ _ hS9.2.2 (by omega)
              · exact absurd h306 (by decide)
            · exact absurd h299 (by decide)
          · exact absurd p3 h280
        · exact absurd p3 h247
      | true =>
        obtain ⟨b, hb, p2⟩ := wit_ex hn1 (by omega) w2
        by_cases hab : a = b
        ·
          subst hab
          refine r_aload_n C dL_law_228 rfl 1 rfl ?_
          refine r_aload_n C dL_law_229 rfl 0 rfl ?_
          refine r_iload C dL_law_230 4 rfl ?_
          refine r_iconst C (nI 1) dL_law_232 (by decide) ?_
          refine r_iadd C dL_law_233 ?_
          refine r_topi (nI_add i9 1) ?_
          refine r_sld C hSc (by omega) hL dL_law_234 ?_
          refine r_topi (w := nI a) p1 ?_
          refine r_aload_n C dL_law_235 rfl 0 rfl ?_
          refine r_iload C dL_law_236 4 rfl ?_
          refine r_iconst C (nI 2) dL_law_238 (by decide) ?_
          refine r_iadd C dL_law_239 ?_
          refine r_topi (nI_add i9 2) ?_
          refine r_sld C hSc (by omega) hL dL_law_240 ?_
          refine r_topi (w := nI a) p2 ?_
          refine r_aload_n C dL_law_241 rfl 0 rfl ?_
          refine r_iload C dL_law_242 4 rfl ?_
          refine r_iconst C (nI 3) dL_law_244 (by decide) ?_
          refine r_iadd C dL_law_245 ?_
          refine r_topi (nI_add i9 3) ?_
          refine r_sld C hSc (by omega) hL dL_law_246 ?_
          refine r_if_eq C 254 dL_law_247 (by decide) (fun h247 => ?_) (fun h247 => ?_)
          ·
            refine r_iconst C (nI 0) dL_law_254 (by decide) ?_
            refine r_topi (w := bI false) (by decide) ?_
            refine r_aload_n C dL_law_255 rfl 3 rfl ?_
            refine r_wcall C hN (u1 := 1) (nA := 5) (by omega) [.ref (ad 117), .int (nI a), .int (nI a), .int (bI false), .ref (ad 145)] (w_joinY l D cs ad hfl M (M.1 136) n d hg hn8 a ha false) (tt_W ml_L_101 st_L_join in_L co_L_join) ⟨by decide, by decide, by decide⟩ ⟨Nat.le_of_ble_eq_true rfl, Nat.le_of_ble_eq_true rfl⟩ rfl rfl (Nat.le_of_ble_eq_true rfl) dL_law_256 (fun rw1 Mw qw => ?_)
            obtain ⟨rfl, hc⟩ := qw
            have e1 : Mw.1 = Mw.1 := rfl
            have e2 : Mw.2 145 0 = Mw.2 145 0 := rfl
            have eM : ∀ i, 135 ≤ i → Mw.1 i = M.1 i := eM_lk (lk_eq hc)
            have e136 : Mw.1 136 = M.1 136 := eM 136 (by decide)
            refine r_istore C [(5, .int (nI 2)), (0, .ref b9), (1, .ref (ad 117)), (2, .ref (ad 135)), (3, .ref (ad 145)), (4, .int (nI i9))] dL_law_259 (by decide) rfl ?_
            refine r_aload_n C dL_law_261 rfl 3 rfl ?_
            refine r_aload_n C dL_law_262 rfl 1 rfl ?_
            refine r_iload C dL_law_263 5 rfl ?_
            refine r_iconst C (nI 1) dL_law_265 (by decide) ?_
            refine r_iadd C dL_law_266 ?_
            refine r_topi (nI_add i9 1) ?_
            refine r_sld C hSc (by omega) hL dL_law_267 ?_
            refine r_topi (w := nI a) p1 ?_
            refine r_aload_n C dL_law_268 rfl 1 rfl ?_
            refine r_iload C dL_law_269 5 rfl ?_
            refine r_iconst C (nI 2) dL_law_271 (by decide) ?_
            refine r_iadd C dL_law_272 ?_
            refine r_topi (nI_add i9 2) ?_
            refine r_sld C hSc (by omega) hL dL_law_273 ?_
            refine r_topi (w := nI a) p2 ?_
            refine r_aload_n C dL_law_274 rfl 1 rfl ?_
            refine r_iload C dL_law_275 5 rfl ?_
            refine r_iconst C (nI 3) dL_law_277 (by decide) ?_
            refine r_iadd C dL_law_278 ?_
            refine r_topi (nI_add i9 3) ?_
            refine r_sld C hSc (by omega) hL dL_law_279 ?_
            refine r_if_eq C 287 dL_law_280 (by decide) (fun h280 => ?_) (fun h280 => ?_)
            ·
              refine r_iconst C (nI 0) dL_law_287 (by decide) ?_
              refine r_topi (w := bI false) (by decide) ?_
              refine r_callV_i (nA := 3) C (by omega) [.int (nI a), .int (nI a), .int (bI false)] (c_X8_joinY l D cs ad Mw n (by rw [e136]; exact hz.1) hn8 a false ha) (tt_V ml_L_104 im_X8_join se_X8_join in_X8 co_X8_join) ⟨rfl, rfl⟩ ⟨rfl, by decide, by decide, by decide⟩ ⟨Nat.le_of_ble_eq_true rfl, Nat.le_of_ble_eq_true rfl⟩ (by decide) rfl rfl rfl rfl rfl (Nat.le_of_ble_eq_true rfl) dL_law_288 (fun ru1 Mu1 qu1 => ?_)
              obtain ⟨hr1, hm1⟩ := qu1
              have hS9 : Mu1.1 135 7 = nI 2 ∧ Mu1.2 145 0 = _ ∧ RR Mu1 := S_lk hX (lk_eq hc) e1 e2 (show SQ (mI Mw 135 7 (nI 2)) Mu1 by rw [hm1]; exact SQ.rf _)
              refine r_istore C [(6, .int ru1), (5, .int (nI 2)), (0, .ref b9), (1, .ref (ad 117)), (2, .ref (ad 135)), (3, .ref (ad 145)), (4, .int (nI i9))] dL_law_291 (by decide) rfl ?_
              refine r_aload_n C dL_law_293 rfl 4 rfl ?_
              refine r_pcallV_i (nA := 0) C (by omega) [] (c_X8_thrown l D cs ad Mu1) (tt_V ml_L_98 im_X8_thrown se_X8_thrown in_X8 co_X8_thrown) ⟨rfl, rfl⟩ ⟨rfl, by decide, by decide, by decide⟩ ⟨Nat.le_of_ble_eq_true rfl, Nat.le_of_ble_eq_true rfl⟩ (by decide) rfl rfl rfl rfl rfl (Nat.le_of_ble_eq_true rfl) dL_law_294 ?_
              refine r_topi (w := nI 2) hS9.1 ?_
              refine r_iload C dL_law_297 1 rfl ?_
              refine r_icmpN_eq C 304 dL_law_299 (by decide) (by omega) (by omega) (fun h299 => ?_) (fun h299 => ?_)
              ·
                refine r_iload C dL_law_304 1 rfl ?_
                refine r_if_ne C 321 dL_law_306 (by decide) (fun h306 => ?_) (fun h306 => ?_)
                ·
                  refine r_goto C 1584 dL_law_321 (by decide) ?_
                  refine r_lv (lv2 := [(0, .ref b9), (1, .ref (ad 117)), (2, .ref (ad 135)), (3, .ref (ad 145)), (4, .int (nI i9))]) [2, 3, 4, 5, 6] rfl ?_
                  exact k9 _ _ hS9.2.2 (by omega)
                · exact absurd h306 (by decide)
              · exact absurd h299 (by decide)
            · exact absurd p3 h280
          · exact absurd p3 h247
        ·
          refine r_aload_n C dL_law_228 rfl 1 rfl ?_
          refine r_aload_n C dL_law_229 rfl 0 rfl ?_
          refine r_iload C dL_law_230 4 rfl ?_
          refine r_iconst C (nI 1) dL_law_232 (by decide) ?_
          refine r_iadd C dL_law_233 ?_
          refine r_topi (nI_add i9 1) ?_
          refine r_sld C hSc (by omega) hL dL_law_234 ?_
          refine r_topi (w := nI a) p1 ?_
          refine r_aload_n C dL_law_235 rfl 0 rfl ?_
          refine r_iload C dL_law_236 4 rfl ?_
          refine r_iconst C (nI 2) dL_law_238 (by decide) ?_
          refine r_iadd C dL_law_239 ?_
          refine r_topi (nI_add i9 2) ?_
          refine r_sld C hSc (by omega) hL dL_law_240 ?_
          refine r_topi (w := nI b) p2 ?_
          refine r_aload_n C dL_law_241 rfl 0 rfl ?_
          refine r_iload C dL_law_242 4 rfl ?_
          refine r_iconst C (nI 3) dL_law_244 (by decide) ?_
          refine r_iadd C dL_law_245 ?_
          refine r_topi (nI_add i9 3) ?_
          refine r_sld C hSc (by omega) hL dL_law_246 ?_
          refine r_if_eq C 254 dL_law_247 (by decide) (fun h247 => ?_) (fun h247 => ?_)
          ·
            refine r_iconst C (nI 0) dL_law_254 (by decide) ?_
            refine r_topi (w := bI false) (by decide) ?_
            refine r_aload_n C dL_law_255 rfl 3 rfl ?_
            refine r_wcall C hN (u1 := 0) (nA := 5) (by omega) [.ref (ad 117), .int (nI a), .int (nI b), .int (bI false), .ref (ad 145)] (w_join l D cs ad M (M.1 136) n d hg hn8 lt hlt hlt6 s9 hs hs6 a b false ha hb hab (gz_gm (gq_gz (gq_jo (t := false) hq0 ha hb hab)))) (tt_W ml_L_101 st_L_join in_L co_L_join) ⟨by decide, by decide, by decide⟩ ⟨Nat.le_of_ble_eq_true rfl, Nat.le_of_ble_eq_true rfl⟩ rfl rfl (Nat.le_of_ble_eq_true rfl) dL_law_256 (fun rw1 Mw qw => ?_)
            obtain ⟨rfl, v9, M9, hp9, hw9b⟩ := qw
            have e1 : Mw.1 = M9.1 := by rw [hw9b]; rfl
            have e2 : Mw.2 145 0 = v9.toInt64 := by rw [hw9b, mJ_eq, vL_e]
            obtain ⟨hvv, hc⟩ := hp9
            have eM : ∀ i, 135 ≤ i → Mw.1 i = M.1 i := fun i hi => by rw [e1]; exact (show ∀ i, 135 ≤ i → M9.1 i = M.1 i from eM_ch hlt6 hc) i hi
            have e136 : Mw.1 136 = M.1 136 := eM 136 (by decide)
            refine r_istore C [(5, .int (nI 0)), (0, .ref b9), (1, .ref (ad 117)), (2, .ref (ad 135)), (3, .ref (ad 145)), (4, .int (nI i9))] dL_law_259 (by decide) rfl ?_
            refine r_aload_n C dL_law_261 rfl 3 rfl ?_
            refine r_aload_n C dL_law_262 rfl 1 rfl ?_
            refine r_iload C dL_law_263 5 rfl ?_
            refine r_iconst C (nI 1) dL_law_265 (by decide) ?_
            refine r_iadd C dL_law_266 ?_
            refine r_topi (nI_add i9 1) ?_
            refine r_sld C hSc (by omega) hL dL_law_267 ?_
            refine r_topi (w := nI a) p1 ?_
            refine r_aload_n C dL_law_268 rfl 1 rfl ?_
            refine r_iload C dL_law_269 5 rfl ?_
            refine r_iconst C (nI 2) dL_law_271 (by decide) ?_
            refine r_iadd C dL_law_272 ?_
            refine r_topi (nI_add i9 2) ?_
            refine r_sld C hSc (by omega) hL dL_law_273 ?_
            refine r_topi (w := nI b) p2 ?_
            refine r_aload_n C dL_law_274 rfl 1 rfl ?_
            refine r_iload C dL_law_275 5 rfl ?_
            refine r_iconst C (nI 3) dL_law_277 (by decide) ?_
            refine r_iadd C dL_law_278 ?_
            refine r_topi (nI_add i9 3) ?_
            refine r_sld C hSc (by omega) hL dL_law_279 ?_
            refine r_if_eq C 287 dL_law_280 (by decide) (fun h280 => ?_) (fun h280 => ?_)
            ·
              refine r_iconst C (nI 0) dL_law_287 (by decide) ?_
              refine r_topi (w := bI false) (by decide) ?_
              refine r_callV_i (nA := 3) C (by omega) [.int (nI a), .int (nI b), .int (bI false)] (c_X8_join l D cs ad Mw n (by rw [e136]; exact hz.1) hn8 s9 (by rw [eM 135 (by decide)]; exact hms) hs6 a b false ha hb hab) (tt_V ml_L_104 im_X8_join se_X8_join in_X8 co_X8_join) ⟨rfl, rfl⟩ ⟨rfl, by decide, by decide, by decide⟩ ⟨Nat.le_of_ble_eq_true rfl, Nat.le_of_ble_eq_true rfl⟩ (by decide) rfl rfl rfl rfl rfl (Nat.le_of_ble_eq_true rfl) dL_law_288 (fun ru1 Mu1 qu1 => ?_)
              rw [e136] at qu1
              obtain ⟨hr1, hm1⟩ := qu1
              have hS9 : Mu1.1 135 7 = nI 0 ∧ Mu1.2 145 0 = _ ∧ RR Mu1 := S_ch hX hc (gq_gz (gq_jo (t := false) hq0 ha hb hab)) (fun _ _ => rfl) (jo_54 (by omega) (by omega)) e1 e2 (by rw [hm1]; exact (ms_0 Mw s9).A) (fun _ _ => rfl)
              have hv9 : Mu1.2 145 0 = ru1.toInt64 := by rw [hS9.2.1, hvv, hr1]
              refine r_istore C [(6, .int ru1), (5, .int (nI 0)), (0, .ref b9), (1, .ref (ad 117)), (2, .ref (ad 135)), (3, .ref (ad 145)), (4, .int (nI i9))] dL_law_291 (by decide) rfl ?_
              refine r_aload_n C dL_law_293 rfl 4 rfl ?_
              refine r_pcallV_i (nA := 0) C (by omega) [] (c_X8_thrown l D cs ad Mu1) (tt_V ml_L_98 im_X8_thrown se_X8_thrown in_X8 co_X8_thrown) ⟨rfl, rfl⟩ ⟨rfl, by decide, by decide, by decide⟩ ⟨Nat.le_of_ble_eq_true rfl, Nat.le_of_ble_eq_true rfl⟩ (by decide) rfl rfl rfl rfl rfl (Nat.le_of_ble_eq_true rfl) dL_law_294 ?_
              refine r_topi (w := nI 0) hS9.1 ?_
              refine r_iload C dL_law_297 1 rfl ?_
              refine r_icmpN_eq C 304 dL_law_299 (by decide) (by omega) (by omega) (fun h299 => ?_) (fun h299 => ?_)
              ·
                refine r_iload C dL_law_304 1 rfl ?_
                refine r_if_ne C 321 dL_law_306 (by decide) (fun h306 => ?_) (fun h306 => ?_)
                · exact absurd rfl h306
                ·
                  refine r_aload_n C dL_law_309 rfl 5 rfl ?_
                  refine r_iconst C (nI 0) dL_law_310 (by decide) ?_
                  refine r_lald C (id := 145) (n := 1) (a := 0) (by decide) rfl (by decide) (by decide) dL_law_311 ?_
                  refine r_topl (w := ru1.toInt64) hv9 ?_
                  refine r_iload C dL_law_312 0 rfl ?_
                  refine r_i2l C dL_law_314 ?_
                  refine r_lcmp C dL_law_315 ?_
                  refine r_if_eq C 321 dL_law_316 (by decide) (fun h316 => ?_) (fun h316 => ?_)
                  ·
                    rw [lgc_eq] at h316
                    refine r_goto C 1584 dL_law_321 (by decide) ?_
                    refine r_lv (lv2 := [(0, .ref b9), (1, .ref (ad 117)), (2, .ref (ad 135)), (3, .ref (ad 145)), (4, .int (nI i9))]) [2, 3, 4, 5, 6] rfl ?_
                    exact k9 _ _ hS9.2.2 (by omega)
                  · exact absurd (lgcT _) h316
              · exact absurd h299 (by decide)
            · exact absurd p3 h280
          · exact absurd p3 h247
set_option maxRecDepth 100000 in
set_option maxHeartbeats 4000000 in
theorem LC_weigh {l : Launch} {D : va_G} {cs : Nat → ClassId} {ad : Nat → Nat} {κ : Kx} {u U : Nat} {M : Mm} (C : CX D cs ad cL_law 9 RL 2048 84000 U κ) (hN : CN ad κ) (hfl : l.stackTraces = false) {b9 L i9 : Nat} {xs : Nat → Int32} (hSc : CSX ad b9 L xs κ) (hL : L ≤ 2048) (hj : i9 + 4 ≤ L) {s9 lt len n d : Nat} {ct : Nat → Nat} (hX : RX M s9 lt len ct n d) (hu : u + 1 ≤ U) (k9 : ∀ (u2 : Nat) (M2 : Mm), RR M2 → u2 ≤ u + 1 → VV l D cs ad 9 κ u2 M2 1584 [(0, .ref b9), (1, .ref (ad 117)), (2, .ref (ad 135)), (3, .ref (ad 145)), (4, .int (nI i9))] []) : VV l D cs ad 9 κ u M 324 [(0, .ref b9), (1, .ref (ad 117)), (2, .ref (ad 135)), (3, .ref (ad 145)), (4, .int (nI i9))] [] := by
  obtain ⟨hz, hg, hpm, hks, hkh, hkt, hms, hml, htx⟩ := (show RX M s9 lt len ct n d from hX)
  obtain ⟨hzn, hzd, ⟨hn1, hn8⟩, ⟨hd1, hd4⟩, ⟨mk, hk⟩, hsy, hw9, hlb, hhb, hlz, hz0⟩ := (show gz (M.1 136) n d from hz)
  obtain ⟨hlt, hlt6, hs, hs6, hhi⟩ := (show KH M (fun j p => M.1 137 (55 * j + p)) s9 lt from hkh)
  obtain ⟨hlen, hl60, hct⟩ := (show KT M ct len from hkt)
  have hm := gk_gm hn8 hk
  obtain ⟨e0, hq0⟩ := gz_gq hz
  cases w1 : (wit (xs (i9 + 1)) (nI 0) (nI n - nI 1)) with
  | false =>
    refine r_aload_n C dL_law_324 rfl 1 rfl ?_
    refine r_aload_n C dL_law_325 rfl 0 rfl ?_
    refine r_iload C dL_law_326 4 rfl ?_
    refine r_iconst C (nI 1) dL_law_328 (by decide) ?_
    refine r_iadd C dL_law_329 ?_
    refine r_topi (nI_add i9 1) ?_
    refine r_sld C hSc (by omega) hL dL_law_330 ?_
    refine r_aload_n C dL_law_331 rfl 0 rfl ?_
    refine r_iload C dL_law_332 4 rfl ?_
    refine r_iconst C (nI 2) dL_law_334 (by decide) ?_
    refine r_iadd C dL_law_335 ?_
    refine r_topi (nI_add i9 2) ?_
    refine r_sld C hSc (by omega) hL dL_law_336 ?_
    refine r_aload_n C dL_law_337 rfl 3 rfl ?_
    refine r_wcall C hN (u1 := 1) (nA := 4) (by omega) [.ref (ad 117), .int (xs (i9 + 1)), .int (xs (i9 + 2)), .ref (ad 145)] (w_weighX l D cs ad hfl M (M.1 136) n d hg hn8 hn1 (xs (i9 + 1)) (xs (i9 + 2)) w1) (tt_W ml_L_105 st_L_weigh in_L co_L_weigh) ⟨by decide, by decide, by decide⟩ ⟨Nat.le_of_ble_eq_true rfl, Nat.le_of_ble_eq_true rfl⟩ rfl rfl (Nat.le_of_ble_eq_true rfl) dL_law_338 (fun rw1 Mw qw => ?_)
    obtain ⟨rfl, hc⟩ := qw
    have e1 : Mw.1 = Mw.1 := rfl
    have e2 : Mw.2 145 0 = Mw.2 145 0 := rfl
    have eM : ∀ i, 135 ≤ i → Mw.1 i = M.1 i := eM_lk (lk_eq hc)
    have e136 : Mw.1 136 = M.1 136 := eM 136 (by decide)
    refine r_istore C [(5, .int (nI 1)), (0, .ref b9), (1, .ref (ad 117)), (2, .ref (ad 135)), (3, .ref (ad 145)), (4, .int (nI i9))] dL_law_341 (by decide) rfl ?_
    refine r_aload_n C dL_law_343 rfl 3 rfl ?_
    refine r_aload_n C dL_law_344 rfl 1 rfl ?_
    refine r_iload C dL_law_345 5 rfl ?_
    refine r_iconst C (nI 1) dL_law_347 (by decide) ?_
    refine r_iadd C dL_law_348 ?_
    refine r_topi (nI_add i9 1) ?_
    refine r_sld C hSc (by omega) hL dL_law_349 ?_
    refine r_aload_n C dL_law_350 rfl 1 rfl ?_
    refine r_iload C dL_law_351 5 rfl ?_
    refine r_iconst C (nI 2) dL_law_353 (by decide) ?_
    refine r_iadd C dL_law_354 ?_
    refine r_topi (nI_add i9 2) ?_
    refine r_sld C hSc (by omega) hL dL_law_355 ?_
    refine r_callV_i (nA := 2) C (by omega) [.int (xs (i9 + 1)), .int (xs (i9 + 2))] (c_X8_weighX l D cs ad Mw n (by rw [e136]; exact hz.1) hn8 (xs (i9 + 1)) (xs (i9 + 2)) w1) (tt_V ml_L_107 im_X8_weigh se_X8_weigh in_X8 co_X8_weigh) ⟨rfl, rfl⟩ ⟨rfl, by decide, by decide, by decide⟩ ⟨Nat.le_of_ble_eq_true rfl, Nat.le_of_ble_eq_true rfl⟩ (by decide) rfl rfl rfl rfl rfl (Nat.le_of_ble_eq_true rfl) dL_law_356 (fun ru1 Mu1 qu1 => ?_)
    obtain ⟨hr1, hm1⟩ := qu1
    have hS9 : Mu1.1 135 7 = nI 1 ∧ Mu1.2 145 0 = _ ∧ RR Mu1 := S_lk hX (lk_eq hc) e1 e2 (show SQ (mI Mw 135 7 (nI 1)) Mu1 by rw [hm1]; exact SQ.rf _)
    refine r_istore C [(6, .int ru1), (5, .int (nI 1)), (0, .ref b9), (1, .ref (ad 117)), (2, .ref (ad 135)), (3, .ref (ad 145)), (4, .int (nI i9))] dL_law_359 (by decide) rfl ?_
    refine r_aload_n C dL_law_361 rfl 4 rfl ?_
    refine r_pcallV_i (nA := 0) C (by omega) [] (c_X8_thrown l D cs ad Mu1) (tt_V ml_L_98 im_X8_thrown se_X8_thrown in_X8 co_X8_thrown) ⟨rfl, rfl⟩ ⟨rfl, by decide, by decide, by decide⟩ ⟨Nat.le_of_ble_eq_true rfl, Nat.le_of_ble_eq_true rfl⟩ (by decide) rfl rfl rfl rfl rfl (Nat.le_of_ble_eq_true rfl) dL_law_362 ?_
    refine r_topi (w := nI 1) hS9.1 ?_
    refine r_iload C dL_law_365 1 rfl ?_
    refine r_icmpN_eq C 372 dL_law_367 (by decide) (by omega) (by omega) (fun h367 => ?_) (fun h367 => ?_)
    ·
      refine r_iload C dL_law_372 1 rfl ?_
      refine r_if_ne C 389 dL_law_374 (by decide) (fun h374 => ?_) (fun h374 => ?_)
      ·
        refine r_goto C 1584 dL_law_389 (by decide) ?_
        refine r_lv (lv2 := [(0, .ref b9), (1, .ref (ad 117)), (2, .ref (ad 135)), (3, .ref (ad 145)), (4, .int (nI i9))]) [2, 3, 4, 5, 6] rfl ?_
        exact k9 _ _ hS9.2.2 (by omega)
      · exact absurd h374 (by decide)
    · exact absurd h367 (by decide)
  | true =>
    obtain ⟨v, hv, p1⟩ := wit_ex hn1 (by omega) w1
    cases w2 : (wit (xs (i9 + 2)) (nI 0) (nI 9)) with
    | false =>
      refine r_aload_n C dL_law_324 rfl 1 rfl ?_
      refine r_aload_n C dL_law_325 rfl 0 rfl ?_
      refine r_iload C dL_law_326 4 rfl ?_
      refine r_iconst C (nI 1) dL_law_328 (by decide) ?_
      refine r_iadd C dL_law_329 ?_
      refine r_topi (nI_add i9 1) ?_
      refine r_sld C hSc (by omega) hL dL_law_330 ?_
      refine r_topi (w := nI v) p1 ?_
      refine r_aload_n C dL_law_331 rfl 0 rfl ?_
      refine r_iload C dL_law_332 4 rfl ?_
      refine r_iconst C (nI 2) dL_law_334 (by decide) ?_
      refine r_iadd C dL_law_335 ?_
      refine r_topi (nI_add i9 2) ?_
      refine r_sld C hSc (by omega) hL dL_law_336 ?_
      refine r_aload_n C dL_law_337 rfl 3 rfl ?_
      refine r_wcall C hN (u1 := 1) (nA := 4) (by omega) [.ref (ad 117), .int (nI v), .int (xs (i9 + 2)), .ref (ad 145)] (w_weighY l D cs ad hfl M (M.1 136) n d hg hn8 v hv (xs (i9 + 2)) w2) (tt_W ml_L_105 st_L_weigh in_L co_L_weigh) ⟨by decide, by decide, by decide⟩ ⟨Nat.le_of_ble_eq_true rfl, Nat.le_of_ble_eq_true rfl⟩ rfl rfl (Nat.le_of_ble_eq_true rfl) dL_law_338 (fun rw1 Mw qw => ?_)
      obtain ⟨rfl, hc⟩ := qw
      have e1 : Mw.1 = Mw.1 := rfl
      have e2 : Mw.2 145 0 = Mw.2 145 0 := rfl
      have eM : ∀ i, 135 ≤ i → Mw.1 i = M.1 i := eM_lk (lk_eq hc)
      have e136 : Mw.1 136 = M.1 136 := eM 136 (by decide)
      refine r_istore C [(5, .int (nI 2)), (0, .ref b9), (1, .ref (ad 117)), (2, .ref (ad 135)), (3, .ref (ad 145)), (4, .int (nI i9))] dL_law_341 (by decide) rfl ?_
      refine r_aload_n C dL_law_343 rfl 3 rfl ?_
      refine r_aload_n C dL_law_344 rfl 1 rfl ?_
      refine r_iload C dL_law_345 5 rfl ?_
      refine r_iconst C (nI 1) dL_law_347 (by decide) ?_
      refine r_iadd C dL_law_348 ?_
      refine r_topi (nI_add i9 1) ?_
      refine r_sld C hSc (by omega) hL dL_law_349 ?_
      refine r_topi (w := nI v) p1 ?_
      refine r_aload_n C dL_law_350 rfl 1 rfl ?_
      refine r_iload C dL_law_351 5 rfl ?_
      refine r_iconst C (nI 2) dL_law_353 (by decide) ?_
      refine r_iadd C dL_law_354 ?_
      refine r_topi (nI_add i9 2) ?_
      refine r_sld C hSc (by omega) hL dL_law_355 ?_
      refine r_callV_i (nA := 2) C (by omega) [.int (nI v), .int (xs (i9 + 2))] (c_X8_weighY l D cs ad Mw n (by rw [e136]; exact hz.1) hn8 v hv (xs (i9 + 2)) w2) (tt_V ml_L_107 im_X8_weigh se_X8_weigh in_X8 co_X8_weigh) ⟨rfl, rfl⟩ ⟨rfl, by decide, by decide, by decide⟩ ⟨Nat.le_of_ble_eq_true rfl, Nat.le_of_ble_eq_true rfl⟩ (by decide) rfl rfl rfl rfl rfl (Nat.le_of_ble_eq_true rfl) dL_law_356 (fun ru1 Mu1 qu1 => ?_)
      obtain ⟨hr1, hm1⟩ := qu1
      have hS9 : Mu1.1 135 7 = nI 2 ∧ Mu1.2 145 0 = _ ∧ RR Mu1 := S_lk hX (lk_eq hc) e1 e2 (show SQ (mI Mw 135 7 (nI 2)) Mu1 by rw [hm1]; exact SQ.rf _)
      refine r_istore C [(6, .int ru1), (5, .int (nI 2)), (0, .ref b9), (1, .ref (ad 117)), (2, .ref (ad 135)), (3, .ref (ad 145)), (4, .int (nI i9))] dL_law_359 (by decide) rfl ?_
      refine r_aload_n C dL_law_361 rfl 4 rfl ?_
      refine r_pcallV_i (nA := 0) C (by omega) [] (c_X8_thrown l D cs ad Mu1) (tt_V ml_L_98 im_X8_thrown se_X8_thrown in_X8 co_X8_thrown) ⟨rfl, rfl⟩ ⟨rfl, by decide, by decide, by decide⟩ ⟨Nat.le_of_ble_eq_true rfl, Nat.le_of_ble_eq_true rfl⟩ (by decide) rfl rfl rfl rfl rfl (Nat.le_of_ble_eq_true rfl) dL_law_362 ?_
      refine r_topi (w := nI 2) hS9.1 ?_
      refine r_iload C dL_law_365 1 rfl ?_
      refine r_icmpN_eq C 372 dL_law_367 (by decide) (by omega) (by omega) (fun h367 => ?_) (fun h367 => ?_)
      ·
        refine r_iload C dL_law_372 1 rfl ?_
        refine r_if_ne C 389 dL_law_374 (by decide) (fun h374 => ?_) (fun h374 => ?_)
        ·
          refine r_goto C 1584 dL_law_389 (by decide) ?_
          refine r_lv (lv2 := [(0, .ref b9), (1, .ref (ad 117)), (2, .ref (ad 135)), (3, .ref (ad 145)), (4, .int (nI i9))]) [2, 3, 4, 5, 6] rfl ?_
          exact k9 _ _ hS9.2.2 (by omega)
        · exact absurd h374 (by decide)
      · exact absurd h367 (by decide)
    | true =>
      obtain ⟨w, -, hw, p2⟩ := wit_rg (by decide) (by decide) w2
      refine r_aload_n C dL_law_324 rfl 1 rfl ?_
      refine r_aload_n C dL_law_325 rfl 0 rfl ?_
      refine r_iload C dL_law_326 4 rfl ?_
      refine r_iconst C (nI 1) dL_law_328 (by decide) ?_
      refine r_iadd C dL_law_329 ?_
      refine r_topi (nI_add i9 1) ?_
      refine r_sld C hSc (by omega) hL dL_law_330 ?_
      refine r_topi (w := nI v) p1 ?_
      refine r_aload_n C dL_law_331 rfl 0 rfl ?_
      refine r_iload C dL_law_332 4 rfl ?_
      refine r_iconst C (nI 2) dL_law_334 (by decide) ?_
      refine r_iadd C dL_law_335 ?_
      refine r_topi (nI_add i9 2) ?_
      refine r_sld C hSc (by omega) hL dL_law_336 ?_
      refine r_topi (w := nI w) p2 ?_
      refine r_aload_n C dL_law_337 rfl 3 rfl ?_
      refine r_wcall C hN (u1 := 0) (nA := 4) (by omega) [.ref (ad 117), .int (nI v), .int (nI w), .ref (ad 145)] (w_weigh l D cs ad M (M.1 136) n d hg hn8 lt hlt hlt6 s9 hs hs6 v w hv hw) (tt_W ml_L_105 st_L_weigh in_L co_L_weigh) ⟨by decide, by decide, by decide⟩ ⟨Nat.le_of_ble_eq_true rfl, Nat.le_of_ble_eq_true rfl⟩ rfl rfl (Nat.le_of_ble_eq_true rfl) dL_law_338 (fun rw1 Mw qw => ?_)
      obtain ⟨rfl, v9, M9, hp9, hw9b⟩ := qw
      have e1 : Mw.1 = M9.1 := by rw [hw9b]; rfl
      have e2 : Mw.2 145 0 = v9.toInt64 := by rw [hw9b, mJ_eq, vL_e]
      obtain ⟨hvv, M1, hsv, hc⟩ := hp9
      have eM : ∀ i, 135 ≤ i → Mw.1 i = M.1 i := fun i hi => by rw [e1]; exact (show ∀ i, 135 ≤ i → M9.1 i = M.1 i from by rw [hc]; exact eM_I hlt6 hsv (by decide)) i hi
      have e136 : Mw.1 136 = M.1 136 := eM 136 (by decide)
      refine r_istore C [(5, .int (nI 0)), (0, .ref b9), (1, .ref (ad 117)), (2, .ref (ad 135)), (3, .ref (ad 145)), (4, .int (nI i9))] dL_law_341 (by decide) rfl ?_
      refine r_aload_n C dL_law_343 rfl 3 rfl ?_
      refine r_aload_n C dL_law_344 rfl 1 rfl ?_
      refine r_iload C dL_law_345 5 rfl ?_
      refine r_iconst C (nI 1) dL_law_347 (by decide) ?_
      refine r_iadd C dL_law_348 ?_
      refine r_topi (nI_add i9 1) ?_
      refine r_sld C hSc (by omega) hL dL_law_349 ?_
      refine r_topi (w := nI v) p1 ?_
      refine r_aload_n C dL_law_350 rfl 1 rfl ?_
      refine r_iload C dL_law_351 5 rfl ?_
      refine r_iconst C (nI 2) dL_law_353 (by decide) ?_
      refine r_iadd C dL_law_354 ?_
      refine r_topi (nI_add i9 2) ?_
      refine r_sld C hSc (by omega) hL dL_law_355 ?_
      refine r_topi (w := nI w) p2 ?_
      refine r_callV_i (nA := 2) C (by omega) [.int (nI v), .int (nI w)] (c_X8_weigh l D cs ad Mw n (by rw [e136]; exact hz.1) hn8 s9 (by rw [eM 135 (by decide)]; exact hms) hs6 v w hv hw) (tt_V ml_L_107 im_X8_weigh se_X8_weigh in_X8 co_X8_weigh) ⟨rfl, rfl⟩ ⟨rfl, by decide, by decide, by decide⟩ ⟨Nat.le_of_ble_eq_true rfl, Nat.le_of_ble_eq_true rfl⟩ (by decide) rfl rfl rfl rfl rfl (Nat.le_of_ble_eq_true rfl) dL_law_356 (fun ru1 Mu1 qu1 => ?_)
      rw [e136] at qu1
      obtain ⟨hr1, hm1⟩ := qu1
      have hS9 : Mu1.1 135 7 = nI 0 ∧ Mu1.2 145 0 = _ ∧ RR Mu1 := S_up hX hsv (by decide) hc (gq_gz (gq_w hq0 hv hw)) (gv_uw (sv_gv hsv hlt6 hg hn8 (by decide) (by decide)) hn8 hv) (by omega) e1 e2 (by rw [hm1]; exact ms_I e136)
      have hv9 : Mu1.2 145 0 = ru1.toInt64 := by rw [hS9.2.1, hvv, hr1]
      refine r_istore C [(6, .int ru1), (5, .int (nI 0)), (0, .ref b9), (1, .ref (ad 117)), (2, .ref (ad 135)), (3, .ref (ad 145)), (4, .int (nI i9))] dL_law_359 (by decide) rfl ?_
      refine r_aload_n C dL_law_361 rfl 4 rfl ?_
      refine r_pcallV_i (nA := 0) C (by omega) [] (c_X8_thrown l D cs ad Mu1) (tt_V ml_L_98 im_X8_thrown se_X8_thrown in_X8 co_X8_thrown) ⟨rfl, rfl⟩ ⟨rfl, by decide, by decide, by decide⟩ ⟨Nat.le_of_ble_eq_true rfl, Nat.le_of_ble_eq_true rfl⟩ (by decide) rfl rfl rfl rfl rfl (Nat.le_of_ble_eq_true rfl) dL_law_362 ?_
      refine r_topi (w := nI 0) hS9.1 ?_
      refine r_iload C dL_law_365 1 rfl ?_
      refine r_icmpN_eq C 372 dL_law_367 (by decide) (by omega) (by omega) (fun h367 => ?_) (fun h367 => ?_)
      ·
        refine r_iload C dL_law_372 1 rfl ?_
        refine r_if_ne C 389 dL_law_374 (by decide) (fun h374 => ?_) (fun h374 => ?_)
        · exact absurd rfl h374
        ·
          refine r_aload_n C dL_law_377 rfl 5 rfl ?_
          refine r_iconst C (nI 0) dL_law_378 (by decide) ?_
          refine r_lald C (id := 145) (n := 1) (a := 0) (by decide) rfl (by decide) (by decide) dL_law_379 ?_
          refine r_topl (w := ru1.toInt64) hv9 ?_
          refine r_iload C dL_law_380 0 rfl ?_
          refine r_i2l C dL_law_382 ?_
          refine r_lcmp C dL_law_383 ?_
          refine r_if_eq C 389 dL_law_384 (by decide) (fun h384 => ?_) (fun h384 => ?_)
          ·
            rw [lgc_eq] at h384
            refine r_goto C 1584 dL_law_389 (by decide) ?_
            refine r_lv (lv2 := [(0, .ref b9), (1, .ref (ad 117)), (2, .ref (ad 135)), (3, .ref (ad 145)), (4, .int (nI i9))]) [2, 3, 4, 5, 6] rfl ?_
            exact k9 _ _ hS9.2.2 (by omega)
          · exact absurd (lgcT _) h384
      · exact absurd h367 (by decide)
set_option maxRecDepth 100000 in
set_option maxHeartbeats 4000000 in
theorem LC_remove {l : Launch} {D : va_G} {cs : Nat → ClassId} {ad : Nat → Nat} {κ : Kx} {u U : Nat} {M : Mm} (C : CX D cs ad cL_law 9 RL 2048 84000 U κ) (hN : CN ad κ) (hfl : l.stackTraces = false) {b9 L i9 : Nat} {xs : Nat → Int32} (hSc : CSX ad b9 L xs κ) (hL : L ≤ 2048) (hj : i9 + 4 ≤ L) {s9 lt len n d : Nat} {ct : Nat → Nat} (hX : RX M s9 lt len ct n d) (hu : u + 1 ≤ U) (k9 : ∀ (u2 : Nat) (M2 : Mm), RR M2 → u2 ≤ u + 1 → VV l D cs ad 9 κ u2 M2 1584 [(0, .ref b9), (1, .ref (ad 117)), (2, .ref (ad 135)), (3, .ref (ad 145)), (4, .int (nI i9))] []) : VV l D cs ad 9 κ u M 405 [(0, .ref b9), (1, .ref (ad 117)), (2, .ref (ad 135)), (3, .ref (ad 145)), (4, .int (nI i9))] [] := by
  obtain ⟨hz, hg, hpm, hks, hkh, hkt, hms, hml, htx⟩ := (show RX M s9 lt len ct n d from hX)
  obtain ⟨hzn, hzd, ⟨hn1, hn8⟩, ⟨hd1, hd4⟩, ⟨mk, hk⟩, hsy, hw9, hlb, hhb, hlz, hz0⟩ := (show gz (M.1 136) n d from hz)
  obtain ⟨hlt, hlt6, hs, hs6, hhi⟩ := (show KH M (fun j p => M.1 137 (55 * j + p)) s9 lt from hkh)
  obtain ⟨hlen, hl60, hct⟩ := (show KT M ct len from hkt)
  have hm := gk_gm hn8 hk
  obtain ⟨e0, hq0⟩ := gz_gq hz
  cases w1 : (wit (xs (i9 + 1)) (nI 0) (nI n - nI 1)) with
  | false =>
    refine r_aload_n C dL_law_405 rfl 1 rfl ?_
    refine r_aload_n C dL_law_406 rfl 0 rfl ?_
    refine r_iload C dL_law_407 4 rfl ?_
    refine r_iconst C (nI 1) dL_law_409 (by decide) ?_
    refine r_iadd C dL_law_410 ?_
    refine r_topi (nI_add i9 1) ?_
    refine r_sld C hSc (by omega) hL dL_law_411 ?_
    refine r_aload_n C dL_law_412 rfl 3 rfl ?_
    refine r_wcall C hN (u1 := 1) (nA := 3) (by omega) [.ref (ad 117), .int (xs (i9 + 1)), .ref (ad 145)] (w_removeX l D cs ad hfl M (M.1 136) n d hg hn8 hn1 (xs (i9 + 1)) w1) (tt_W ml_L_112 st_L_remove in_L co_L_remove) ⟨by decide, by decide, by decide⟩ ⟨Nat.le_of_ble_eq_true rfl, Nat.le_of_ble_eq_true rfl⟩ rfl rfl (Nat.le_of_ble_eq_true rfl) dL_law_413 (fun rw1 Mw qw => ?_)
    obtain ⟨rfl, hc⟩ := qw
    have e1 : Mw.1 = Mw.1 := rfl
    have e2 : Mw.2 145 0 = Mw.2 145 0 := rfl
    have eM : ∀ i, 135 ≤ i → Mw.1 i = M.1 i := eM_lk (lk_eq hc)
    have e136 : Mw.1 136 = M.1 136 := eM 136 (by decide)
    refine r_istore C [(5, .int (nI 1)), (0, .ref b9), (1, .ref (ad 117)), (2, .ref (ad 135)), (3, .ref (ad 145)), (4, .int (nI i9))] dL_law_416 (by decide) rfl ?_
    refine r_aload_n C dL_law_418 rfl 3 rfl ?_
    refine r_aload_n C dL_law_419 rfl 1 rfl ?_
    refine r_iload C dL_law_420 5 rfl ?_
    refine r_iconst C (nI 1) dL_law_422 (by decide) ?_
    refine r_iadd C dL_law_423 ?_
    refine r_topi (nI_add i9 1) ?_
    refine r_sld C hSc (by omega) hL dL_law_424 ?_
    refine r_callV_i (nA := 1) C (by omega) [.int (xs (i9 + 1))] (c_X8_removeX l D cs ad Mw n (by rw [e136]; exact hz.1) hn8 (xs (i9 + 1)) w1) (tt_V ml_L_115 im_X8_remove se_X8_remove in_X8 co_X8_remove) ⟨rfl, rfl⟩ ⟨rfl, by decide, by decide, by decide⟩ ⟨Nat.le_of_ble_eq_true rfl, Nat.le_of_ble_eq_true rfl⟩ (by decide) rfl rfl rfl rfl rfl (Nat.le_of_ble_eq_true rfl) dL_law_425 (fun ru1 Mu1 qu1 => ?_)
    obtain ⟨hr1, hm1⟩ := qu1
    have hS9 : Mu1.1 135 7 = nI 1 ∧ Mu1.2 145 0 = _ ∧ RR Mu1 := S_lk hX (lk_eq hc) e1 e2 (show SQ (mI Mw 135 7 (nI 1)) Mu1 by rw [hm1]; exact SQ.rf _)
    refine r_istore C [(6, .int ru1), (5, .int (nI 1)), (0, .ref b9), (1, .ref (ad 117)), (2, .ref (ad 135)), (3, .ref (ad 145)), (4, .int (nI i9))] dL_law_428 (by decide) rfl ?_
    refine r_aload_n C dL_law_430 rfl 4 rfl ?_
    refine r_pcallV_i (nA := 0) C (by omega) [] (c_X8_thrown l D cs ad Mu1) (tt_V ml_L_98 im_X8_thrown se_X8_thrown in_X8 co_X8_thrown) ⟨rfl, rfl⟩ ⟨rfl, by decide, by decide, by decide⟩ ⟨Nat.le_of_ble_eq_true rfl, Nat.le_of_ble_eq_true rfl⟩ (by decide) rfl rfl rfl rfl rfl (Nat.le_of_ble_eq_true rfl) dL_law_431 ?_
    refine r_topi (w := nI 1) hS9.1 ?_
    refine r_iload C dL_law_434 1 rfl ?_
    refine r_icmpN_eq C 441 dL_law_436 (by decide) (by omega) (by omega) (fun h436 => ?_) (fun h436 => ?_)
    ·
      refine r_iload C dL_law_441 1 rfl ?_
      refine r_if_ne C 458 dL_law_443 (by decide) (fun h443 => ?_) (fun h443 => ?_)
      ·
        refine r_goto C 1584 dL_law_458 (by decide) ?_
        refine r_lv (lv2 := [(0, .ref b9), (1, .ref (ad 117)), (2, .ref (ad 135)), (3, .ref (ad 145)), (4, .int (nI i9))]) [2, 3, 4, 5, 6] rfl ?_
        exact k9 _ _ hS9.2.2 (by omega)
      · exact absurd h443 (by decide)
    · exact absurd h436 (by decide)
  | true =>
    obtain ⟨v, hv, p1⟩ := wit_ex hn1 (by omega) w1
    by_cases h1 : n = 1
    ·
      obtain rfl : v = 0 := by omega
      refine r_aload_n C dL_law_405 rfl 1 rfl ?_
      refine r_aload_n C dL_law_406 rfl 0 rfl ?_
      refine r_iload C dL_law_407 4 rfl ?_
      refine r_iconst C (nI 1) dL_law_409 (by decide) ?_
      refine r_iadd C dL_law_410 ?_
      refine r_topi (nI_add i9 1) ?_
      refine r_sld C hSc (by omega) hL dL_law_411 ?_
      refine r_topi (w := nI 0) p1 ?_
      refine r_aload_n C dL_law_412 rfl 3 rfl ?_
      refine r_wcall C hN (u1 := 1) (nA := 3) (by omega) [.ref (ad 117), .int (nI 0), .ref (ad 145)] (w_removeY l D cs ad hfl M (M.1 136) n d hg hn8 h1) (tt_W ml_L_112 st_L_remove in_L co_L_remove) ⟨by decide, by decide, by decide⟩ ⟨Nat.le_of_ble_eq_true rfl, Nat.le_of_ble_eq_true rfl⟩ rfl rfl (Nat.le_of_ble_eq_true rfl) dL_law_413 (fun rw1 Mw qw => ?_)
      obtain ⟨rfl, hc⟩ := qw
      have e1 : Mw.1 = Mw.1 := rfl
      have e2 : Mw.2 145 0 = Mw.2 145 0 := rfl
      have eM : ∀ i, 135 ≤ i → Mw.1 i = M.1 i := eM_lk (lk_eq hc)
      have e136 : Mw.1 136 = M.1 136 := eM 136 (by decide)
      refine r_istore C [(5, .int (nI 2)), (0, .ref b9), (1, .ref (ad 117)), (2, .ref (ad 135)), (3, .ref (ad 145)), (4, .int (nI i9))] dL_law_416 (by decide) rfl ?_
      refine r_aload_n C dL_law_418 rfl 3 rfl ?_
      refine r_aload_n C dL_law_419 rfl 1 rfl ?_
      refine r_iload C dL_law_420 5 rfl ?_
      refine r_iconst C (nI 1) dL_law_422 (by decide) ?_
      refine r_iadd C dL_law_423 ?_
      refine r_topi (nI_add i9 1) ?_
      refine r_sld C hSc (by omega) hL dL_law_424 ?_
      refine r_topi (w := nI 0) p1 ?_
      refine r_callV_i (nA := 1) C (by omega) [.int (nI 0)] (c_X8_removeY l D cs ad Mw n (by rw [e136]; exact hz.1) hn8 h1) (tt_V ml_L_115 im_X8_remove se_X8_remove in_X8 co_X8_remove) ⟨rfl, rfl⟩ ⟨rfl, by decide, by decide, by decide⟩ ⟨Nat.le_of_ble_eq_true rfl, Nat.le_of_ble_eq_true rfl⟩ (by decide) rfl rfl rfl rfl rfl (Nat.le_of_ble_eq_true rfl) dL_law_425 (fun ru1 Mu1 qu1 => ?_)
      obtain ⟨hr1, hm1⟩ := qu1
      have hS9 : Mu1.1 135 7 = nI 2 ∧ Mu1.2 145 0 = _ ∧ RR Mu1 := S_lk hX (lk_eq hc) e1 e2 (show SQ (mI Mw 135 7 (nI 2)) Mu1 by rw [hm1]; exact SQ.rf _)
      refine r_istore C [(6, .int ru1), (5, .int (nI 2)), (0, .ref b9), (1, .ref (ad 117)), (2, .ref (ad 135)), (3, .ref (ad 145)), (4, .int (nI i9))] dL_law_428 (by decide) rfl ?_
      refine r_aload_n C dL_law_430 rfl 4 rfl ?_
      refine r_pcallV_i (nA := 0) C (by omega) [] (c_X8_thrown l D cs ad Mu1) (tt_V ml_L_98 im_X8_thrown se_X8_thrown in_X8 co_X8_thrown) ⟨rfl, rfl⟩ ⟨rfl, by decide, by decide, by decide⟩ ⟨Nat.le_of_ble_eq_true rfl, Nat.le_of_ble_eq_true rfl⟩ (by decide) rfl rfl rfl rfl rfl (Nat.le_of_ble_eq_true rfl) dL_law_431 ?_
      refine r_topi (w := nI 2) hS9.1 ?_
      refine r_iload C dL_law_434 1 rfl ?_
      refine r_icmpN_eq C 441 dL_law_436 (by decide) (by omega) (by omega) (fun h436 => ?_) (fun h436 => ?_)
      ·
        refine r_iload C dL_law_441 1 rfl ?_
        refine r_if_ne C 458 dL_law_443 (by decide) (fun h443 => ?_) (fun h443 => ?_)
        ·
          refine r_goto C 1584 dL_law_458 (by decide) ?_
          refine r_lv (lv2 := [(0, .ref b9), (1, .ref (ad 117)), (2, .ref (ad 135)), (3, .ref (ad 145)), (4, .int (nI i9))]) [2, 3, 4, 5, 6] rfl ?_
          exact k9 _ _ hS9.2.2 (by omega)
        · exact absurd h443 (by decide)
      · exact absurd h436 (by decide)
    ·
      have hn2 : 2 ≤ n := by omega
      refine r_aload_n C dL_law_405 rfl 1 rfl ?_
      refine r_aload_n C dL_law_406 rfl 0 rfl ?_
      refine r_iload C dL_law_407 4 rfl ?_
      refine r_iconst C (nI 1) dL_law_409 (by decide) ?_
      refine r_iadd C dL_law_410 ?_
      refine r_topi (nI_add i9 1) ?_
      refine r_sld C hSc (by omega) hL dL_law_411 ?_
      refine r_topi (w := nI v) p1 ?_
      refine r_aload_n C dL_law_412 rfl 3 rfl ?_
      refine r_wcall C hN (u1 := 0) (nA := 3) (by omega) [.ref (ad 117), .int (nI v), .ref (ad 145)] (w_remove l D cs ad M (M.1 136) n d hg hn8 lt hlt hlt6 s9 hs hs6 hm v hv hn2) (tt_W ml_L_112 st_L_remove in_L co_L_remove) ⟨by decide, by decide, by decide⟩ ⟨Nat.le_of_ble_eq_true rfl, Nat.le_of_ble_eq_true rfl⟩ rfl rfl (Nat.le_of_ble_eq_true rfl) dL_law_413 (fun rw1 Mw qw => ?_)
      obtain ⟨rfl, v9, M9, hp9, hw9b⟩ := qw
      have e1 : Mw.1 = M9.1 := by rw [hw9b]; rfl
      have e2 : Mw.2 145 0 = v9.toInt64 := by rw [hw9b, mJ_eq, vL_e]
      obtain ⟨hvv, hc⟩ := hp9
      have eM : ∀ i, 135 ≤ i → Mw.1 i = M.1 i := fun i hi => by rw [e1]; exact (show ∀ i, 135 ≤ i → M9.1 i = M.1 i from eM_ch hlt6 hc) i hi
      have e136 : Mw.1 136 = M.1 136 := eM 136 (by decide)
      refine r_istore C [(5, .int (nI 0)), (0, .ref b9), (1, .ref (ad 117)), (2, .ref (ad 135)), (3, .ref (ad 145)), (4, .int (nI i9))] dL_law_416 (by decide) rfl ?_
      refine r_aload_n C dL_law_418 rfl 3 rfl ?_
      refine r_aload_n C dL_law_419 rfl 1 rfl ?_
      refine r_iload C dL_law_420 5 rfl ?_
      refine r_iconst C (nI 1) dL_law_422 (by decide) ?_
      refine r_iadd C dL_law_423 ?_
      refine r_topi (nI_add i9 1) ?_
      refine r_sld C hSc (by omega) hL dL_law_424 ?_
      refine r_topi (w := nI v) p1 ?_
      refine r_callV_i (nA := 1) C (by omega) [.int (nI v)] (c_X8_remove l D cs ad Mw n (by rw [e136]; exact hz.1) hn8 s9 (by rw [eM 135 (by decide)]; exact hms) hs6 v hv hn2) (tt_V ml_L_115 im_X8_remove se_X8_remove in_X8 co_X8_remove) ⟨rfl, rfl⟩ ⟨rfl, by decide, by decide, by decide⟩ ⟨Nat.le_of_ble_eq_true rfl, Nat.le_of_ble_eq_true rfl⟩ (by decide) rfl rfl rfl rfl rfl (Nat.le_of_ble_eq_true rfl) dL_law_425 (fun ru1 Mu1 qu1 => ?_)
      rw [e136] at qu1
      obtain ⟨hr1, hm1⟩ := qu1
      have hS9 : Mu1.1 135 7 = nI 0 ∧ Mu1.2 145 0 = _ ∧ RR Mu1 := S_ch hX hc (gq_gz (gq_rm hq0 hv hn2)) (fun _ _ => rfl) (rm_54 hn8) e1 e2 (by rw [hm1]; exact (ms_0 Mw s9).A) (fun _ _ => rfl)
      have hv9 : Mu1.2 145 0 = ru1.toInt64 := by rw [hS9.2.1, hvv, hr1]
      refine r_istore C [(6, .int ru1), (5, .int (nI 0)), (0, .ref b9), (1, .ref (ad 117)), (2, .ref (ad 135)), (3, .ref (ad 145)), (4, .int (nI i9))] dL_law_428 (by decide) rfl ?_
      refine r_aload_n C dL_law_430 rfl 4 rfl ?_
      refine r_pcallV_i (nA := 0) C (by omega) [] (c_X8_thrown l D cs ad Mu1) (tt_V ml_L_98 im_X8_thrown se_X8_thrown in_X8 co_X8_thrown) ⟨rfl, rfl⟩ ⟨rfl, by decide, by decide, by decide⟩ ⟨Nat.le_of_ble_eq_true rfl, Nat.le_of_ble_eq_true rfl⟩ (by decide) rfl rfl rfl rfl rfl (Nat.le_of_ble_eq_true rfl) dL_law_431 ?_
      refine r_topi (w := nI 0) hS9.1 ?_
      refine r_iload C dL_law_434 1 rfl ?_
      refine r_icmpN_eq C 441 dL_law_436 (by decide) (by omega) (by omega) (fun h436 => ?_) (fun h436 => ?_)
      ·
        refine r_iload C dL_law_441 1 rfl ?_
        refine r_if_ne C 458 dL_law_443 (by decide) (fun h443 => ?_) (fun h443 => ?_)
        · exact absurd rfl h443
        ·
          refine r_aload_n C dL_law_446 rfl 5 rfl ?_
          refine r_iconst C (nI 0) dL_law_447 (by decide) ?_
          refine r_lald C (id := 145) (n := 1) (a := 0) (by decide) rfl (by decide) (by decide) dL_law_448 ?_
          refine r_topl (w := ru1.toInt64) hv9 ?_
          refine r_iload C dL_law_449 0 rfl ?_
          refine r_i2l C dL_law_451 ?_
          refine r_lcmp C dL_law_452 ?_
          refine r_if_eq C 458 dL_law_453 (by decide) (fun h453 => ?_) (fun h453 => ?_)
          ·
            rw [lgc_eq] at h453
            refine r_goto C 1584 dL_law_458 (by decide) ?_
            refine r_lv (lv2 := [(0, .ref b9), (1, .ref (ad 117)), (2, .ref (ad 135)), (3, .ref (ad 145)), (4, .int (nI i9))]) [2, 3, 4, 5, 6] rfl ?_
            exact k9 _ _ hS9.2.2 (by omega)
          · exact absurd (lgcT _) h453
      · exact absurd h436 (by decide)
set_option maxRecDepth 100000 in
set_option maxHeartbeats 4000000 in
theorem LC_label {l : Launch} {D : va_G} {cs : Nat → ClassId} {ad : Nat → Nat} {κ : Kx} {u U : Nat} {M : Mm} (C : CX D cs ad cL_law 9 RL 2048 84000 U κ) (hN : CN ad κ) (hfl : l.stackTraces = false) {b9 L i9 : Nat} {xs : Nat → Int32} (hSc : CSX ad b9 L xs κ) (hL : L ≤ 2048) (hj : i9 + 4 ≤ L) {s9 lt len n d : Nat} {ct : Nat → Nat} (hX : RX M s9 lt len ct n d) (hu : u + 1 ≤ U) (k9 : ∀ (u2 : Nat) (M2 : Mm), RR M2 → u2 ≤ u + 1 → VV l D cs ad 9 κ u2 M2 1584 [(0, .ref b9), (1, .ref (ad 117)), (2, .ref (ad 135)), (3, .ref (ad 145)), (4, .int (nI i9))] []) : VV l D cs ad 9 κ u M 517 [(0, .ref b9), (1, .ref (ad 117)), (2, .ref (ad 135)), (3, .ref (ad 145)), (4, .int (nI i9))] [] := by
  obtain ⟨hz, hg, hpm, hks, hkh, hkt, hms, hml, htx⟩ := (show RX M s9 lt len ct n d from hX)
  obtain ⟨hzn, hzd, ⟨hn1, hn8⟩, ⟨hd1, hd4⟩, ⟨mk, hk⟩, hsy, hw9, hlb, hhb, hlz, hz0⟩ := (show gz (M.1 136) n d from hz)
  obtain ⟨hlt, hlt6, hs, hs6, hhi⟩ := (show KH M (fun j p => M.1 137 (55 * j + p)) s9 lt from hkh)
  obtain ⟨hlen, hl60, hct⟩ := (show KT M ct len from hkt)
  have hm := gk_gm hn8 hk
  obtain ⟨e0, hq0⟩ := gz_gq hz
  cases w1 : (wit (xs (i9 + 1)) (nI 0) (nI n - nI 1)) with
  | false =>
    refine r_aload_n C dL_law_517 rfl 1 rfl ?_
    refine r_aload_n C dL_law_518 rfl 0 rfl ?_
    refine r_iload C dL_law_519 4 rfl ?_
    refine r_iconst C (nI 1) dL_law_521 (by decide) ?_
    refine r_iadd C dL_law_522 ?_
    refine r_topi (nI_add i9 1) ?_
    refine r_sld C hSc (by omega) hL dL_law_523 ?_
    refine r_aload_n C dL_law_524 rfl 0 rfl ?_
    refine r_iload C dL_law_525 4 rfl ?_
    refine r_iconst C (nI 2) dL_law_527 (by decide) ?_
    refine r_iadd C dL_law_528 ?_
    refine r_topi (nI_add i9 2) ?_
    refine r_sld C hSc (by omega) hL dL_law_529 ?_
    refine r_aload_n C dL_law_530 rfl 0 rfl ?_
    refine r_iload C dL_law_531 4 rfl ?_
    refine r_iconst C (nI 3) dL_law_533 (by decide) ?_
    refine r_iadd C dL_law_534 ?_
    refine r_topi (nI_add i9 3) ?_
    refine r_sld C hSc (by omega) hL dL_law_535 ?_
    refine r_aload_n C dL_law_536 rfl 3 rfl ?_
    refine r_wcall C hN (u1 := 1) (nA := 5) (by omega) [.ref (ad 117), .int (xs (i9 + 1)), .int (xs (i9 + 2)), .int (xs (i9 + 3)), .ref (ad 145)] (w_labelX1 l D cs ad hfl M (M.1 136) n d hg hn8 hn1 (xs (i9 + 1)) (xs (i9 + 2)) (xs (i9 + 3)) w1) (tt_W ml_L_119 st_L_label in_L co_L_label) ⟨by decide, by decide, by decide⟩ ⟨Nat.le_of_ble_eq_true rfl, Nat.le_of_ble_eq_true rfl⟩ rfl rfl (Nat.le_of_ble_eq_true rfl) dL_law_537 (fun rw1 Mw qw => ?_)
    obtain ⟨rfl, hc⟩ := qw
    have e1 : Mw.1 = Mw.1 := rfl
    have e2 : Mw.2 145 0 = Mw.2 145 0 := rfl
    have eM : ∀ i, 135 ≤ i → Mw.1 i = M.1 i := eM_lk (lk_eq hc)
    have e136 : Mw.1 136 = M.1 136 := eM 136 (by decide)
    refine r_istore C [(5, .int (nI 1)), (0, .ref b9), (1, .ref (ad 117)), (2, .ref (ad 135)), (3, .ref (ad 145)), (4, .int (nI i9))] dL_law_540 (by decide) rfl ?_
    refine r_aload_n C dL_law_542 rfl 3 rfl ?_
    refine r_aload_n C dL_law_543 rfl 1 rfl ?_
    refine r_iload C dL_law_544 5 rfl ?_
    refine r_iconst C (nI 1) dL_law_546 (by decide) ?_
    refine r_iadd C dL_law_547 ?_
    refine r_topi (nI_add i9 1) ?_
    refine r_sld C hSc (by omega) hL dL_law_548 ?_
    refine r_aload_n C dL_law_549 rfl 1 rfl ?_
    refine r_iload C dL_law_550 5 rfl ?_
    refine r_iconst C (nI 2) dL_law_552 (by decide) ?_
    refine r_iadd C dL_law_553 ?_
    refine r_topi (nI_add i9 2) ?_
    refine r_sld C hSc (by omega) hL dL_law_554 ?_
    refine r_aload_n C dL_law_555 rfl 1 rfl ?_
    refine r_iload C dL_law_556 5 rfl ?_
    refine r_iconst C (nI 3) dL_law_558 (by decide) ?_
    refine r_iadd C dL_law_559 ?_
    refine r_topi (nI_add i9 3) ?_
    refine r_sld C hSc (by omega) hL dL_law_560 ?_
    refine r_callV_i (nA := 3) C (by omega) [.int (xs (i9 + 1)), .int (xs (i9 + 2)), .int (xs (i9 + 3))] (c_X8_labelX l D cs ad Mw n (by rw [e136]; exact hz.1) hn8 d (by rw [e136]; exact hz.2.1) hd4 (xs (i9 + 1)) (xs (i9 + 2)) (xs (i9 + 3)) (by rw [w1]; rfl)) (tt_V ml_L_122 im_X8_label se_X8_label in_X8 co_X8_label) ⟨rfl, rfl⟩ ⟨rfl, by decide, by decide, by decide⟩ ⟨Nat.le_of_ble_eq_true rfl, Nat.le_of_ble_eq_true rfl⟩ (by decide) rfl rfl rfl rfl rfl (Nat.le_of_ble_eq_true rfl) dL_law_561 (fun ru1 Mu1 qu1 => ?_)
    obtain ⟨hr1, hm1⟩ := qu1
    have hS9 : Mu1.1 135 7 = nI 1 ∧ Mu1.2 145 0 = _ ∧ RR Mu1 := S_lk hX (lk_eq hc) e1 e2 (show SQ (mI Mw 135 7 (nI 1)) Mu1 by rw [hm1]; exact SQ.rf _)
    refine r_istore C [(6, .int ru1), (5, .int (nI 1)), (0, .ref b9), (1, .ref (ad 117)), (2, .ref (ad 135)), (3, .ref (ad 145)), (4, .int (nI i9))] dL_law_564 (by decide) rfl ?_
    refine r_aload_n C dL_law_566 rfl 4 rfl ?_
    refine r_pcallV_i (nA := 0) C (by omega) [] (c_X8_thrown l D cs ad Mu1) (tt_V ml_L_98 im_X8_thrown se_X8_thrown in_X8 co_X8_thrown) ⟨rfl, rfl⟩ ⟨rfl, by decide, by decide, by decide⟩ ⟨Nat.le_of_ble_eq_true rfl, Nat.le_of_ble_eq_true rfl⟩ (by decide) rfl rfl rfl rfl rfl (Nat.le_of_ble_eq_true rfl) dL_law_567 ?_
    refine r_topi (w := nI 1) hS9.1 ?_
    refine r_iload C dL_law_570 1 rfl ?_
    refine r_icmpN_eq C 577 dL_law_572 (by decide) (by omega) (by omega) (fun h572 => ?_) (fun h572 => ?_)
    ·
      refine r_iload C dL_law_577 1 rfl ?_
      refine r_if_ne C 594 dL_law_579 (by decide) (fun h579 => ?_) (fun h579 => ?_)
      ·
        refine r_goto C 1584 dL_law_594 (by decide) ?_
        refine r_lv (lv2 := [(0, .ref b9), (1, .ref (ad 117)), (2, .ref (ad 135)), (3, .ref (ad 145)), (4, .int (nI i9))]) [2, 3, 4, 5, 6] rfl ?_
        exact k9 _ _ hS9.2.2 (by omega)
      · exact absurd h579 (by decide)
    · exact absurd h572 (by decide)
  | true =>
    obtain ⟨v, hv, p1⟩ := wit_ex hn1 (by omega) w1
    cases w2 : (wit (xs (i9 + 2)) (nI 0) (nI d - nI 1)) with
    | false =>
      refine r_aload_n C dL_law_517 rfl 1 rfl ?_
      refine r_aload_n C dL_law_518 rfl 0 rfl ?_
      refine r_iload C dL_law_519 4 rfl ?_
      refine r_iconst C (nI 1) dL_law_521 (by decide) ?_
      refine r_iadd C dL_law_522 ?_
      refine r_topi (nI_add i9 1) ?_
      refine r_sld C hSc (by omega) hL dL_law_523 ?_
      refine r_topi (w := nI v) p1 ?_
      refine r_aload_n C dL_law_524 rfl 0 rfl ?_
      refine r_iload C dL_law_525 4 rfl ?_
      refine r_iconst C (nI 2) dL_law_527 (by decide) ?_
      refine r_iadd C dL_law_528 ?_
      refine r_topi (nI_add i9 2) ?_
      refine r_sld C hSc (by omega) hL dL_law_529 ?_
      refine r_aload_n C dL_law_530 rfl 0 rfl ?_
      refine r_iload C dL_law_531 4 rfl ?_
      refine r_iconst C (nI 3) dL_law_533 (by decide) ?_
      refine r_iadd C dL_law_534 ?_
      refine r_topi (nI_add i9 3) ?_
      refine r_sld C hSc (by omega) hL dL_law_535 ?_
      refine r_aload_n C dL_law_536 rfl 3 rfl ?_
      refine r_wcall C hN (u1 := 1) (nA := 5) (by omega) [.ref (ad 117), .int (nI v), .int (xs (i9 + 2)), .int (xs (i9 + 3)), .ref (ad 145)] (w_labelX2 l D cs ad hfl M (M.1 136) n d hg hn8 hd4 hd1 v hv (xs (i9 + 2)) (xs (i9 + 3)) w2) (tt_W ml_L_119 st_L_label in_L co_L_label) ⟨by decide, by decide, by decide⟩ ⟨Nat.le_of_ble_eq_true rfl, Nat.le_of_ble_eq_true rfl⟩ rfl rfl (Nat.le_of_ble_eq_true rfl) dL_law_537 (fun rw1 Mw qw => ?_)
      obtain ⟨rfl, hc⟩ := qw
      have e1 : Mw.1 = Mw.1 := rfl
      have e2 : Mw.2 145 0 = Mw.2 145 0 := rfl
      have eM : ∀ i, 135 ≤ i → Mw.1 i = M.1 i := eM_lk (lk_eq hc)
      have e136 : Mw.1 136 = M.1 136 := eM 136 (by decide)
      refine r_istore C [(5, .int (nI 1)), (0, .ref b9), (1, .ref (ad 117)), (2, .ref (ad 135)), (3, .ref (ad 145)), (4, .int (nI i9))] dL_law_540 (by decide) rfl ?_
      refine r_aload_n C dL_law_542 rfl 3 rfl ?_
      refine r_aload_n C dL_law_543 rfl 1 rfl ?_
      refine r_iload C dL_law_544 5 rfl ?_
      refine r_iconst C (nI 1) dL_law_546 (by decide) ?_
      refine r_iadd C dL_law_547 ?_
      refine r_topi (nI_add i9 1) ?_
      refine r_sld C hSc (by omega) hL dL_law_548 ?_
      refine r_topi (w := nI v) p1 ?_
      refine r_aload_n C dL_law_549 rfl 1 rfl ?_
      refine r_iload C dL_law_550 5 rfl ?_
      refine r_iconst C (nI 2) dL_law_552 (by decide) ?_
      refine r_iadd C dL_law_553 ?_
      refine r_topi (nI_add i9 2) ?_
      refine r_sld C hSc (by omega) hL dL_law_554 ?_
      refine r_aload_n C dL_law_555 rfl 1 rfl ?_
      refine r_iload C dL_law_556 5 rfl ?_
      refine r_iconst C (nI 3) dL_law_558 (by decide) ?_
      refine r_iadd C dL_law_559 ?_
      refine r_topi (nI_add i9 3) ?_
      refine r_sld C hSc (by omega) hL dL_law_560 ?_
      refine r_callV_i (nA := 3) C (by omega) [.int (nI v), .int (xs (i9 + 2)), .int (xs (i9 + 3))] (c_X8_labelX l D cs ad Mw n (by rw [e136]; exact hz.1) hn8 d (by rw [e136]; exact hz.2.1) hd4 (nI v) (xs (i9 + 2)) (xs (i9 + 3)) (by rw [w2, Bool.and_false])) (tt_V ml_L_122 im_X8_label se_X8_label in_X8 co_X8_label) ⟨rfl, rfl⟩ ⟨rfl, by decide, by decide, by decide⟩ ⟨Nat.le_of_ble_eq_true rfl, Nat.le_of_ble_eq_true rfl⟩ (by decide) rfl rfl rfl rfl rfl (Nat.le_of_ble_eq_true rfl) dL_law_561 (fun ru1 Mu1 qu1 => ?_)
      obtain ⟨hr1, hm1⟩ := qu1
      have hS9 : Mu1.1 135 7 = nI 1 ∧ Mu1.2 145 0 = _ ∧ RR Mu1 := S_lk hX (lk_eq hc) e1 e2 (show SQ (mI Mw 135 7 (nI 1)) Mu1 by rw [hm1]; exact SQ.rf _)
      refine r_istore C [(6, .int ru1), (5, .int (nI 1)), (0, .ref b9), (1, .ref (ad 117)), (2, .ref (ad 135)), (3, .ref (ad 145)), (4, .int (nI i9))] dL_law_564 (by decide) rfl ?_
      refine r_aload_n C dL_law_566 rfl 4 rfl ?_
      refine r_pcallV_i (nA := 0) C (by omega) [] (c_X8_thrown l D cs ad Mu1) (tt_V ml_L_98 im_X8_thrown se_X8_thrown in_X8 co_X8_thrown) ⟨rfl, rfl⟩ ⟨rfl, by decide, by decide, by decide⟩ ⟨Nat.le_of_ble_eq_true rfl, Nat.le_of_ble_eq_true rfl⟩ (by decide) rfl rfl rfl rfl rfl (Nat.le_of_ble_eq_true rfl) dL_law_567 ?_
      refine r_topi (w := nI 1) hS9.1 ?_
      refine r_iload C dL_law_570 1 rfl ?_
      refine r_icmpN_eq C 577 dL_law_572 (by decide) (by omega) (by omega) (fun h572 => ?_) (fun h572 => ?_)
      ·
        refine r_iload C dL_law_577 1 rfl ?_
        refine r_if_ne C 594 dL_law_579 (by decide) (fun h579 => ?_) (fun h579 => ?_)
        ·
          refine r_goto C 1584 dL_law_594 (by decide) ?_
          refine r_lv (lv2 := [(0, .ref b9), (1, .ref (ad 117)), (2, .ref (ad 135)), (3, .ref (ad 145)), (4, .int (nI i9))]) [2, 3, 4, 5, 6] rfl ?_
          exact k9 _ _ hS9.2.2 (by omega)
        · exact absurd h579 (by decide)
      · exact absurd h572 (by decide)
    | true =>
      obtain ⟨p, hp, p2⟩ := wit_ex hd1 (by omega) w2
      cases w3 : (wit (xs (i9 + 3)) (-9) (nI 9)) with
      | false =>
        refine r_aload_n C dL_law_517 rfl 1 rfl ?_
        refine r_aload_n C dL_law_518 rfl 0 rfl ?_
        refine r_iload C dL_law_519 4 rfl ?_
        refine r_iconst C (nI 1) dL_law_521 (by decide) ?_
        refine r_iadd C dL_law_522 ?_
        refine r_topi (nI_add i9 1) ?_
        refine r_sld C hSc (by omega) hL dL_law_523 ?_
        refine r_topi (w := nI v) p1 ?_
        refine r_aload_n C dL_law_524 rfl 0 rfl ?_
        refine r_iload C dL_law_525 4 rfl ?_
        refine r_iconst C (nI 2) dL_law_527 (by decide) ?_
        refine r_iadd C dL_law_528 ?_
        refine r_topi (nI_add i9 2) ?_
        refine r_sld C hSc (by omega) hL dL_law_529 ?_
        refine r_topi (w := nI p) p2 ?_
        refine r_aload_n C dL_law_530 rfl 0 rfl ?_
        refine r_iload C dL_law_531 4 rfl ?_
        refine r_iconst C (nI 3) dL_law_533 (by decide) ?_
        refine r_iadd C dL_law_534 ?_
        refine r_topi (nI_add i9 3) ?_
        refine r_sld C hSc (by omega) hL dL_law_535 ?_
        refine r_aload_n C dL_law_536 rfl 3 rfl ?_
        refine r_wcall C hN (u1 := 1) (nA := 5) (by omega) [.ref (ad 117), .int (nI v), .int (nI p), .int (xs (i9 + 3)), .ref (ad 145)] (w_labelY l D cs ad hfl M (M.1 136) n d hg hn8 hd4 v p hv hp (xs (i9 + 3)) w3) (tt_W ml_L_119 st_L_label in_L co_L_label) ⟨by decide, by decide, by decide⟩ ⟨Nat.le_of_ble_eq_true rfl, Nat.le_of_ble_eq_true rfl⟩ rfl rfl (Nat.le_of_ble_eq_true rfl) dL_law_537 (fun rw1 Mw qw => ?_)
        obtain ⟨rfl, hc⟩ := qw
        have e1 : Mw.1 = Mw.1 := rfl
        have e2 : Mw.2 145 0 = Mw.2 145 0 := rfl
        have eM : ∀ i, 135 ≤ i → Mw.1 i = M.1 i := eM_lk (lk_eq hc)
        have e136 : Mw.1 136 = M.1 136 := eM 136 (by decide)
        refine r_istore C [(5, .int (nI 2)), (0, .ref b9), (1, .ref (ad 117)), (2, .ref (ad 135)), (3, .ref (ad 145)), (4, .int (nI i9))] dL_law_540 (by decide) rfl ?_
        refine r_aload_n C dL_law_542 rfl 3 rfl ?_
        refine r_aload_n C dL_law_543 rfl 1 rfl ?_
        refine r_iload C dL_law_544 5 rfl ?_
        refine r_iconst C (nI 1) dL_law_546 (by decide) ?_
        refine r_iadd C dL_law_547 ?_
        refine r_topi (nI_add i9 1) ?_
        refine r_sld C hSc (by omega) hL dL_law_548 ?_
        refine r_topi (w := nI v) p1 ?_
        refine r_aload_n C dL_law_549 rfl 1 rfl ?_
        refine r_iload C dL_law_550 5 rfl ?_
        refine r_iconst C (nI 2) dL_law_552 (by decide) ?_
        refine r_iadd C dL_law_553 ?_
        refine r_topi (nI_add i9 2) ?_
        refine r_sld C hSc (by omega) hL dL_law_554 ?_
        refine r_topi (w := nI p) p2 ?_
        refine r_aload_n C dL_law_555 rfl 1 rfl ?_
        refine r_iload C dL_law_556 5 rfl ?_
        refine r_iconst C (nI 3) dL_law_558 (by decide) ?_
        refine r_iadd C dL_law_559 ?_
        refine r_topi (nI_add i9 3) ?_
        refine r_sld C hSc (by omega) hL dL_law_560 ?_
        refine r_callV_i (nA := 3) C (by omega) [.int (nI v), .int (nI p), .int (xs (i9 + 3))] (c_X8_labelY l D cs ad Mw n (by rw [e136]; exact hz.1) hn8 d (by rw [e136]; exact hz.2.1) hd4 v p (xs (i9 + 3)) hv hp w3) (tt_V ml_L_122 im_X8_label se_X8_label in_X8 co_X8_label) ⟨rfl, rfl⟩ ⟨rfl, by decide, by decide, by decide⟩ ⟨Nat.le_of_ble_eq_true rfl, Nat.le_of_ble_eq_true rfl⟩ (by decide) rfl rfl rfl rfl rfl (Nat.le_of_ble_eq_true rfl) dL_law_561 (fun ru1 Mu1 qu1 => ?_)
        obtain ⟨hr1, hm1⟩ := qu1
        have hS9 : Mu1.1 135 7 = nI 2 ∧ Mu1.2 145 0 = _ ∧ RR Mu1 := S_lk hX (lk_eq hc) e1 e2 (show SQ (mI Mw 135 7 (nI 2)) Mu1 by rw [hm1]; exact SQ.rf _)
        refine r_istore C [(6, .int ru1), (5, .int (nI 2)), (0, .ref b9), (1, .ref (ad 117)), (2, .ref (ad 135)), (3, .ref (ad 145)), (4, .int (nI i9))] dL_law_564 (by decide) rfl ?_
        refine r_aload_n C dL_law_566 rfl 4 rfl ?_
        refine r_pcallV_i (nA := 0) C (by omega) [] (c_X8_thrown l D cs ad Mu1) (tt_V ml_L_98 im_X8_thrown se_X8_thrown in_X8 co_X8_thrown) ⟨rfl, rfl⟩ ⟨rfl, by decide, by decide, by decide⟩ ⟨Nat.le_of_ble_eq_true rfl, Nat.le_of_ble_eq_true rfl⟩ (by decide) rfl rfl rfl rfl rfl (Nat.le_of_ble_eq_true rfl) dL_law_567 ?_
        refine r_topi (w := nI 2) hS9.1 ?_
        refine r_iload C dL_law_570 1 rfl ?_
        refine r_icmpN_eq C 577 dL_law_572 (by decide) (by omega) (by omega) (fun h572 => ?_) (fun h572 => ?_)
        ·
          refine r_iload C dL_law_577 1 rfl ?_
          refine r_if_ne C 594 dL_law_579 (by decide) (fun h579 => ?_) (fun h579 => ?_)
          ·
            refine r_goto C 1584 dL_law_594 (by decide) ?_
            refine r_lv (lv2 := [(0, .ref b9), (1, .ref (ad 117)), (2, .ref (ad 135)), (3, .ref (ad 145)), (4, .int (nI i9))]) [2, 3, 4, 5, 6] rfl ?_
            exact k9 _ _ hS9.2.2 (by omega)
          · exact absurd h579 (by decide)
        · exact absurd h572 (by decide)
      | true =>
        refine r_aload_n C dL_law_517 rfl 1 rfl ?_
        refine r_aload_n C dL_law_518 rfl 0 rfl ?_
        refine r_iload C dL_law_519 4 rfl ?_
        refine r_iconst C (nI 1) dL_law_521 (by decide) ?_
        refine r_iadd C dL_law_522 ?_
        refine r_topi (nI_add i9 1) ?_
        refine r_sld C hSc (by omega) hL dL_law_523 ?_
        refine r_topi (w := nI v) p1 ?_
        refine r_aload_n C dL_law_524 rfl 0 rfl ?_
        refine r_iload C dL_law_525 4 rfl ?_
        refine r_iconst C (nI 2) dL_law_527 (by decide) ?_
        refine r_iadd C dL_law_528 ?_
        refine r_topi (nI_add i9 2) ?_
        refine r_sld C hSc (by omega) hL dL_law_529 ?_
        refine r_topi (w := nI p) p2 ?_
        refine r_aload_n C dL_law_530 rfl 0 rfl ?_
        refine r_iload C dL_law_531 4 rfl ?_
        refine r_iconst C (nI 3) dL_law_533 (by decide) ?_
        refine r_iadd C dL_law_534 ?_
        refine r_topi (nI_add i9 3) ?_
        refine r_sld C hSc (by omega) hL dL_law_535 ?_
        refine r_aload_n C dL_law_536 rfl 3 rfl ?_
        refine r_wcall C hN (u1 := 0) (nA := 5) (by omega) [.ref (ad 117), .int (nI v), .int (nI p), .int (xs (i9 + 3)), .ref (ad 145)] (w_label l D cs ad M (M.1 136) n d hg hn8 lt hlt hlt6 s9 hs hs6 hd4 v p (xs (i9 + 3)) hv hp w3) (tt_W ml_L_119 st_L_label in_L co_L_label) ⟨by decide, by decide, by decide⟩ ⟨Nat.le_of_ble_eq_true rfl, Nat.le_of_ble_eq_true rfl⟩ rfl rfl (Nat.le_of_ble_eq_true rfl) dL_law_537 (fun rw1 Mw qw => ?_)
        obtain ⟨rfl, v9, M9, hp9, hw9b⟩ := qw
        have e1 : Mw.1 = M9.1 := by rw [hw9b]; rfl
        have e2 : Mw.2 145 0 = v9.toInt64 := by rw [hw9b, mJ_eq, vL_e]
        obtain ⟨hvv, M1, hsv, hc⟩ := hp9
        have eM : ∀ i, 135 ≤ i → Mw.1 i = M.1 i := fun i hi => by rw [e1]; exact (show ∀ i, 135 ≤ i → M9.1 i = M.1 i from by rw [hc]; exact eM_I hlt6 hsv (by simp only [gR]; omega)) i hi
        have e136 : Mw.1 136 = M.1 136 := eM 136 (by decide)
        refine r_istore C [(5, .int (nI 0)), (0, .ref b9), (1, .ref (ad 117)), (2, .ref (ad 135)), (3, .ref (ad 145)), (4, .int (nI i9))] dL_law_540 (by decide) rfl ?_
        refine r_aload_n C dL_law_542 rfl 3 rfl ?_
        refine r_aload_n C dL_law_543 rfl 1 rfl ?_
        refine r_iload C dL_law_544 5 rfl ?_
        refine r_iconst C (nI 1) dL_law_546 (by decide) ?_
        refine r_iadd C dL_law_547 ?_
        refine r_topi (nI_add i9 1) ?_
        refine r_sld C hSc (by omega) hL dL_law_548 ?_
        refine r_topi (w := nI v) p1 ?_
        refine r_aload_n C dL_law_549 rfl 1 rfl ?_
        refine r_iload C dL_law_550 5 rfl ?_
        refine r_iconst C (nI 2) dL_law_552 (by decide) ?_
        refine r_iadd C dL_law_553 ?_
        refine r_topi (nI_add i9 2) ?_
        refine r_sld C hSc (by omega) hL dL_law_554 ?_
        refine r_topi (w := nI p) p2 ?_
        refine r_aload_n C dL_law_555 rfl 1 rfl ?_
        refine r_iload C dL_law_556 5 rfl ?_
        refine r_iconst C (nI 3) dL_law_558 (by decide) ?_
        refine r_iadd C dL_law_559 ?_
        refine r_topi (nI_add i9 3) ?_
        refine r_sld C hSc (by omega) hL dL_law_560 ?_
        refine r_callV_i (nA := 3) C (by omega) [.int (nI v), .int (nI p), .int (xs (i9 + 3))] (c_X8_label l D cs ad Mw n (by rw [e136]; exact hz.1) hn8 d (by rw [e136]; exact hz.2.1) hd4 s9 (by rw [eM 135 (by decide)]; exact hms) hs6 v p (xs (i9 + 3)) hv hp w3) (tt_V ml_L_122 im_X8_label se_X8_label in_X8 co_X8_label) ⟨rfl, rfl⟩ ⟨rfl, by decide, by decide, by decide⟩ ⟨Nat.le_of_ble_eq_true rfl, Nat.le_of_ble_eq_true rfl⟩ (by decide) rfl rfl rfl rfl rfl (Nat.le_of_ble_eq_true rfl) dL_law_561 (fun ru1 Mu1 qu1 => ?_)
        rw [e136] at qu1
        obtain ⟨hr1, hm1⟩ := qu1
        have hS9 : Mu1.1 135 7 = nI 0 ∧ Mu1.2 145 0 = _ ∧ RR Mu1 := S_up hX hsv (by simp only [gR]; omega) hc (gq_gz (gq_l hq0 hv hp (ok9_of w3))) (gv_ul (sv_gv hsv hlt6 hg hn8 (by decide) (by decide)) hn8 hv (by omega)) (by omega) e1 e2 (by rw [hm1]; exact ms_I e136)
        have hv9 : Mu1.2 145 0 = ru1.toInt64 := by rw [hS9.2.1, hvv, hr1]
        refine r_istore C [(6, .int ru1), (5, .int (nI 0)), (0, .ref b9), (1, .ref (ad 117)), (2, .ref (ad 135)), (3, .ref (ad 145)), (4, .int (nI i9))] dL_law_564 (by decide) rfl ?_
        refine r_aload_n C dL_law_566 rfl 4 rfl ?_
        refine r_pcallV_i (nA := 0) C (by omega) [] (c_X8_thrown l D cs ad Mu1) (tt_V ml_L_98 im_X8_thrown se_X8_thrown in_X8 co_X8_thrown) ⟨rfl, rfl⟩ ⟨rfl, by decide, by decide, by decide⟩ ⟨Nat.le_of_ble_eq_true rfl, Nat.le_of_ble_eq_true rfl⟩ (by decide) rfl rfl rfl rfl rfl (Nat.le_of_ble_eq_true rfl) dL_law_567 ?_
        refine r_topi (w := nI 0) hS9.1 ?_
        refine r_iload C dL_law_570 1 rfl ?_
        refine r_icmpN_eq C 577 dL_law_572 (by decide) (by omega) (by omega) (fun h572 => ?_) (fun h572 => ?_)
        ·
          refine r_iload C dL_law_577 1 rfl ?_
          refine r_if_ne C 594 dL_law_579 (by decide) (fun h579 => ?_) (fun h579 => ?_)
          · exact absurd rfl h579
          ·
            refine r_aload_n C dL_law_582 rfl 5 rfl ?_
            refine r_iconst C (nI 0) dL_law_583 (by decide) ?_
            refine r_lald C (id := 145) (n := 1) (a := 0) (by decide) rfl (by decide) (by decide) dL_law_584 ?_
            refine r_topl (w := ru1.toInt64) hv9 ?_
            refine r_iload C dL_law_585 0 rfl ?_
            refine r_i2l C dL_law_587 ?_
            refine r_lcmp C dL_law_588 ?_
            refine r_if_eq C 594 dL_law_589 (by decide) (fun h589 => ?_) (fun h589 => ?_)
            ·
              rw [lgc_eq] at h589
              refine r_goto C 1584 dL_law_594 (by decide) ?_
              refine r_lv (lv2 := [(0, .ref b9), (1, .ref (ad 117)), (2, .ref (ad 135)), (3, .ref (ad 145)), (4, .int (nI i9))]) [2, 3, 4, 5, 6] rfl ?_
              exact k9 _ _ hS9.2.2 (by omega)
            · exact absurd (lgcT _) h589
        · exact absurd h572 (by decide)
set_option maxRecDepth 100000 in
set_option maxHeartbeats 4000000 in
theorem LC_hold {l : Launch} {D : va_G} {cs : Nat → ClassId} {ad : Nat → Nat} {κ : Kx} {u U : Nat} {M : Mm} (C : CX D cs ad cL_law 9 RL 2048 84000 U κ) (hN : CN ad κ) (hfl : l.stackTraces = false) {b9 L i9 : Nat} {xs : Nat → Int32} (hSc : CSX ad b9 L xs κ) (hL : L ≤ 2048) (hj : i9 + 4 ≤ L) {s9 lt len n d : Nat} {ct : Nat → Nat} (hX : RX M s9 lt len ct n d) (hu : u + 1 ≤ U) (k9 : ∀ (u2 : Nat) (M2 : Mm), RR M2 → u2 ≤ u + 1 → VV l D cs ad 9 κ u2 M2 1584 [(0, .ref b9), (1, .ref (ad 117)), (2, .ref (ad 135)), (3, .ref (ad 145)), (4, .int (nI i9))] []) : VV l D cs ad 9 κ u M 597 [(0, .ref b9), (1, .ref (ad 117)), (2, .ref (ad 135)), (3, .ref (ad 145)), (4, .int (nI i9))] [] := by
  obtain ⟨hz, hg, hpm, hks, hkh, hkt, hms, hml, htx⟩ := (show RX M s9 lt len ct n d from hX)
  obtain ⟨hzn, hzd, ⟨hn1, hn8⟩, ⟨hd1, hd4⟩, ⟨mk, hk⟩, hsy, hw9, hlb, hhb, hlz, hz0⟩ := (show gz (M.1 136) n d from hz)
  obtain ⟨hlt, hlt6, hs, hs6, hhi⟩ := (show KH M (fun j p => M.1 137 (55 * j + p)) s9 lt from hkh)
  obtain ⟨hlen, hl60, hct⟩ := (show KT M ct len from hkt)
  have hm := gk_gm hn8 hk
  obtain ⟨e0, hq0⟩ := gz_gq hz
  cases w1 : (wit (xs (i9 + 1)) (nI 0) (nI d - nI 1)) with
  | false =>
    refine r_aload_n C dL_law_597 rfl 1 rfl ?_
    refine r_aload_n C dL_law_598 rfl 0 rfl ?_
    refine r_iload C dL_law_599 4 rfl ?_
    refine r_iconst C (nI 1) dL_law_601 (by decide) ?_
    refine r_iadd C dL_law_602 ?_
    refine r_topi (nI_add i9 1) ?_
    refine r_sld C hSc (by omega) hL dL_law_603 ?_
    refine r_aload_n C dL_law_604 rfl 0 rfl ?_
    refine r_iload C dL_law_605 4 rfl ?_
    refine r_iconst C (nI 2) dL_law_607 (by decide) ?_
    refine r_iadd C dL_law_608 ?_
    refine r_topi (nI_add i9 2) ?_
    refine r_sld C hSc (by omega) hL dL_law_609 ?_
    refine r_aload_n C dL_law_610 rfl 3 rfl ?_
    refine r_wcall C hN (u1 := 1) (nA := 4) (by omega) [.ref (ad 117), .int (xs (i9 + 1)), .int (xs (i9 + 2)), .ref (ad 145)] (w_holdX l D cs ad hfl M (M.1 136) n d hg hn8 hd4 hd1 (xs (i9 + 1)) (xs (i9 + 2)) w1) (tt_W ml_L_123 st_L_hold in_L co_L_hold) ⟨by decide, by decide, by decide⟩ ⟨Nat.le_of_ble_eq_true rfl, Nat.le_of_ble_eq_true rfl⟩ rfl rfl (Nat.le_of_ble_eq_true rfl) dL_law_611 (fun rw1 Mw qw => ?_)
    obtain ⟨rfl, hc⟩ := qw
    have e1 : Mw.1 = Mw.1 := rfl
    have e2 : Mw.2 145 0 = Mw.2 145 0 := rfl
    have eM : ∀ i, 135 ≤ i → Mw.1 i = M.1 i := eM_lk (lk_eq hc)
    have e136 : Mw.1 136 = M.1 136 := eM 136 (by decide)
    refine r_istore C [(5, .int (nI 1)), (0, .ref b9), (1, .ref (ad 117)), (2, .ref (ad 135)), (3, .ref (ad 145)), (4, .int (nI i9))] dL_law_614 (by decide) rfl ?_
    refine r_aload_n C dL_law_616 rfl 3 rfl ?_
    refine r_aload_n C dL_law_617 rfl 1 rfl ?_
    refine r_iload C dL_law_618 5 rfl ?_
    refine r_iconst C (nI 1) dL_law_620 (by decide) ?_
    refine r_iadd C dL_law_621 ?_
    refine r_topi (nI_add i9 1) ?_
    refine r_sld C hSc (by omega) hL dL_law_622 ?_
    refine r_aload_n C dL_law_623 rfl 1 rfl ?_
    refine r_iload C dL_law_624 5 rfl ?_
    refine r_iconst C (nI 2) dL_law_626 (by decide) ?_
    refine r_iadd C dL_law_627 ?_
    refine r_topi (nI_add i9 2) ?_
    refine r_sld C hSc (by omega) hL dL_law_628 ?_
    refine r_callV_i (nA := 2) C (by omega) [.int (xs (i9 + 1)), .int (xs (i9 + 2))] (c_X8_holdX l D cs ad Mw d (by rw [e136]; exact hz.2.1) hd4 (xs (i9 + 1)) (xs (i9 + 2)) w1) (tt_V ml_L_125 im_X8_hold se_X8_hold in_X8 co_X8_hold) ⟨rfl, rfl⟩ ⟨rfl, by decide, by decide, by decide⟩ ⟨Nat.le_of_ble_eq_true rfl, Nat.le_of_ble_eq_true rfl⟩ (by decide) rfl rfl rfl rfl rfl (Nat.le_of_ble_eq_true rfl) dL_law_629 (fun ru1 Mu1 qu1 => ?_)
    obtain ⟨hr1, hm1⟩ := qu1
    have hS9 : Mu1.1 135 7 = nI 1 ∧ Mu1.2 145 0 = _ ∧ RR Mu1 := S_lk hX (lk_eq hc) e1 e2 (show SQ (mI Mw 135 7 (nI 1)) Mu1 by rw [hm1]; exact SQ.rf _)
    refine r_istore C [(6, .int ru1), (5, .int (nI 1)), (0, .ref b9), (1, .ref (ad 117)), (2, .ref (ad 135)), (3, .ref (ad 145)), (4, .int (nI i9))] dL_law_632 (by decide) rfl ?_
    refine r_aload_n C dL_law_634 rfl 4 rfl ?_
    refine r_pcallV_i (nA := 0) C (by omega) [] (c_X8_thrown l D cs ad Mu1) (tt_V ml_L_98 im_X8_thrown se_X8_thrown in_X8 co_X8_thrown) ⟨rfl, rfl⟩ ⟨rfl, by decide, by decide, by decide⟩ ⟨Nat.le_of_ble_eq_true rfl, Nat.le_of_ble_eq_true rfl⟩ (by decide) rfl rfl rfl rfl rfl (Nat.le_of_ble_eq_true rfl) dL_law_635 ?_
    refine r_topi (w := nI 1) hS9.1 ?_
    refine r_iload C dL_law_638 1 rfl ?_
    refine r_icmpN_eq C 645 dL_law_640 (by decide) (by omega) (by omega) (fun h640 => ?_) (fun h640 => ?_)
    ·
      refine r_iload C dL_law_645 1 rfl ?_
      refine r_if_ne C 662 dL_law_647 (by decide) (fun h647 => ?_) (fun h647 => ?_)
      ·
        refine r_goto C 1584 dL_law_662 (by decide) ?_
        refine r_lv (lv2 := [(0, .ref b9), (1, .ref (ad 117)), (2, .ref (ad 135)), (3, .ref (ad 145)), (4, .int (nI i9))]) [2, 3, 4, 5, 6] rfl ?_
        exact k9 _ _ hS9.2.2 (by omega)
      · exact absurd h647 (by decide)
    · exact absurd h640 (by decide)
  | true =>
    obtain ⟨p, hp, p1⟩ := wit_ex hd1 (by omega) w1
    cases w3 : (wit (xs (i9 + 2)) (-9) (nI 9)) with
    | false =>
      refine r_aload_n C dL_law_597 rfl 1 rfl ?_
      refine r_aload_n C dL_law_598 rfl 0 rfl ?_
      refine r_iload C dL_law_599 4 rfl ?_
      refine r_iconst C (nI 1) dL_law_601 (by decide) ?_
      refine r_iadd C dL_law_602 ?_
      refine r_topi (nI_add i9 1) ?_
      refine r_sld C hSc (by omega) hL dL_law_603 ?_
      refine r_topi (w := nI p) p1 ?_
      refine r_aload_n C dL_law_604 rfl 0 rfl ?_
      refine r_iload C dL_law_605 4 rfl ?_
      refine r_iconst C (nI 2) dL_law_607 (by decide) ?_
      refine r_iadd C dL_law_608 ?_
      refine r_topi (nI_add i9 2) ?_
      refine r_sld C hSc (by omega) hL dL_law_609 ?_
      refine r_aload_n C dL_law_610 rfl 3 rfl ?_
      refine r_wcall C hN (u1 := 1) (nA := 4) (by omega) [.ref (ad 117), .int (nI p), .int (xs (i9 + 2)), .ref (ad 145)] (w_holdY l D cs ad hfl M (M.1 136) n d hg hn8 hd4 p hp (xs (i9 + 2)) w3) (tt_W ml_L_123 st_L_hold in_L co_L_hold) ⟨by decide, by decide, by decide⟩ ⟨Nat.le_of_ble_eq_true rfl, Nat.le_of_ble_eq_true rfl⟩ rfl rfl (Nat.le_of_ble_eq_true rfl) dL_law_611 (fun rw1 Mw qw => ?_)
      obtain ⟨rfl, hc⟩ := qw
      have e1 : Mw.1 = Mw.1 := rfl
      have e2 : Mw.2 145 0 = Mw.2 145 0 := rfl
      have eM : ∀ i, 135 ≤ i → Mw.1 i = M.1 i := eM_lk (lk_eq hc)
      have e136 : Mw.1 136 = M.1 136 := eM 136 (by decide)
      refine r_istore C [(5, .int (nI 2)), (0, .ref b9), (1, .ref (ad 117)), (2, .ref (ad 135)), (3, .ref (ad 145)), (4, .int (nI i9))] dL_law_614 (by decide) rfl ?_
      refine r_aload_n C dL_law_616 rfl 3 rfl ?_
      refine r_aload_n C dL_law_617 rfl 1 rfl ?_
      refine r_iload C dL_law_618 5 rfl ?_
      refine r_iconst C (nI 1) dL_law_620 (by decide) ?_
      refine r_iadd C dL_law_621 ?_
      refine r_topi (nI_add i9 1) ?_
      refine r_sld C hSc (by omega) hL dL_law_622 ?_
      refine r_topi (w := nI p) p1 ?_
      refine r_aload_n C dL_law_623 rfl 1 rfl ?_
      refine r_iload C dL_law_624 5 rfl ?_
      refine r_iconst C (nI 2) dL_law_626 (by decide) ?_
      refine r_iadd C dL_law_627 ?_
      refine r_topi (nI_add i9 2) ?_
      refine r_sld C hSc (by omega) hL dL_law_628 ?_
      refine r_callV_i (nA := 2) C (by omega) [.int (nI p), .int (xs (i9 + 2))] (c_X8_holdY l D cs ad Mw d (by rw [e136]; exact hz.2.1) hd4 p (xs (i9 + 2)) hp w3) (tt_V ml_L_125 im_X8_hold se_X8_hold in_X8 co_X8_hold) ⟨rfl, rfl⟩ ⟨rfl, by decide, by decide, by decide⟩ ⟨Nat.le_of_ble_eq_true rfl, Nat.le_of_ble_eq_true rfl⟩ (by decide) rfl rfl rfl rfl rfl (Nat.le_of_ble_eq_true rfl) dL_law_629 (fun ru1 Mu1 qu1 => ?_)
      obtain ⟨hr1, hm1⟩ := qu1
      have hS9 : Mu1.1 135 7 = nI 2 ∧ Mu1.2 145 0 = _ ∧ RR Mu1 := S_lk hX (lk_eq hc) e1 e2 (show SQ (mI Mw 135 7 (nI 2)) Mu1 by rw [hm1]; exact SQ.rf _)
      refine r_istore C [(6, .int ru1), (5, .int (nI 2)), (0, .ref b9), (1, .ref (ad 117)), (2, .ref (ad 135)), (3, .ref (ad 145)), (4, .int (nI i9))] dL_law_632 (by decide) rfl ?_
      refine r_aload_n C dL_law_634 rfl 4 rfl ?_
      refine r_pcallV_i (nA := 0) C (by omega) [] (c_X8_thrown l D cs ad Mu1) (tt_V ml_L_98 im_X8_thrown se_X8_thrown in_X8 co_X8_thrown) ⟨rfl, rfl⟩ ⟨rfl, by decide, by decide, by decide⟩ ⟨Nat.le_of_ble_eq_true rfl, Nat.le_of_ble_eq_true rfl⟩ (by decide) rfl rfl rfl rfl rfl (Nat.le_of_ble_eq_true rfl) dL_law_635 ?_
      refine r_topi (w := nI 2) hS9.1 ?_
      refine r_iload C dL_law_638 1 rfl ?_
      refine r_icmpN_eq C 645 dL_law_640 (by decide) (by omega) (by omega) (fun h640 => ?_) (fun h640 => ?_)
      ·
        refine r_iload C dL_law_645 1 rfl ?_
        refine r_if_ne C 662 dL_law_647 (by decide) (fun h647 => ?_) (fun h647 => ?_)
        ·
          refine r_goto C 1584 dL_law_662 (by decide) ?_
          refine r_lv (lv2 := [(0, .ref b9), (1, .ref (ad 117)), (2, .ref (ad 135)), (3, .ref (ad 145)), (4, .int (nI i9))]) [2, 3, 4, 5, 6] rfl ?_
          exact k9 _ _ hS9.2.2 (by omega)
        · exact absurd h647 (by decide)
      · exact absurd h640 (by decide)
    | true =>
      refine r_aload_n C dL_law_597 rfl 1 rfl ?_
      refine r_aload_n C dL_law_598 rfl 0 rfl ?_
      refine r_iload C dL_law_599 4 rfl ?_
      refine r_iconst C (nI 1) dL_law_601 (by decide) ?_
      refine r_iadd C dL_law_602 ?_
      refine r_topi (nI_add i9 1) ?_
      refine r_sld C hSc (by omega) hL dL_law_603 ?_
      refine r_topi (w := nI p) p1 ?_
      refine r_aload_n C dL_law_604 rfl 0 rfl ?_
      refine r_iload C dL_law_605 4 rfl ?_
      refine r_iconst C (nI 2) dL_law_607 (by decide) ?_
      refine r_iadd C dL_law_608 ?_
      refine r_topi (nI_add i9 2) ?_
      refine r_sld C hSc (by omega) hL dL_law_609 ?_
      refine r_aload_n C dL_law_610 rfl 3 rfl ?_
      refine r_wcall C hN (u1 := 0) (nA := 4) (by omega) [.ref (ad 117), .int (nI p), .int (xs (i9 + 2)), .ref (ad 145)] (w_hold l D cs ad M (M.1 136) n d hg hn8 lt hlt hlt6 s9 hs hs6 hd4 p (xs (i9 + 2)) hp w3) (tt_W ml_L_123 st_L_hold in_L co_L_hold) ⟨by decide, by decide, by decide⟩ ⟨Nat.le_of_ble_eq_true rfl, Nat.le_of_ble_eq_true rfl⟩ rfl rfl (Nat.le_of_ble_eq_true rfl) dL_law_611 (fun rw1 Mw qw => ?_)
      obtain ⟨rfl, v9, M9, hp9, hw9b⟩ := qw
      have e1 : Mw.1 = M9.1 := by rw [hw9b]; rfl
      have e2 : Mw.2 145 0 = v9.toInt64 := by rw [hw9b, mJ_eq, vL_e]
      obtain ⟨hvv, M1, hsv, hc⟩ := hp9
      have eM : ∀ i, 135 ≤ i → Mw.1 i = M.1 i := fun i hi => by rw [e1]; exact (show ∀ i, 135 ≤ i → M9.1 i = M.1 i from by rw [hc]; exact eM_I hlt6 hsv (by decide)) i hi
      have e136 : Mw.1 136 = M.1 136 := eM 136 (by decide)
      refine r_istore C [(5, .int (nI 0)), (0, .ref b9), (1, .ref (ad 117)), (2, .ref (ad 135)), (3, .ref (ad 145)), (4, .int (nI i9))] dL_law_614 (by decide) rfl ?_
      refine r_aload_n C dL_law_616 rfl 3 rfl ?_
      refine r_aload_n C dL_law_617 rfl 1 rfl ?_
      refine r_iload C dL_law_618 5 rfl ?_
      refine r_iconst C (nI 1) dL_law_620 (by decide) ?_
      refine r_iadd C dL_law_621 ?_
      refine r_topi (nI_add i9 1) ?_
      refine r_sld C hSc (by omega) hL dL_law_622 ?_
      refine r_topi (w := nI p) p1 ?_
      refine r_aload_n C dL_law_623 rfl 1 rfl ?_
      refine r_iload C dL_law_624 5 rfl ?_
      refine r_iconst C (nI 2) dL_law_626 (by decide) ?_
      refine r_iadd C dL_law_627 ?_
      refine r_topi (nI_add i9 2) ?_
      refine r_sld C hSc (by omega) hL dL_law_628 ?_
      refine r_callV_i (nA := 2) C (by omega) [.int (nI p), .int (xs (i9 + 2))] (c_X8_hold l D cs ad Mw d (by rw [e136]; exact hz.2.1) hd4 s9 (by rw [eM 135 (by decide)]; exact hms) hs6 p (xs (i9 + 2)) hp w3) (tt_V ml_L_125 im_X8_hold se_X8_hold in_X8 co_X8_hold) ⟨rfl, rfl⟩ ⟨rfl, by decide, by decide, by decide⟩ ⟨Nat.le_of_ble_eq_true rfl, Nat.le_of_ble_eq_true rfl⟩ (by decide) rfl rfl rfl rfl rfl (Nat.le_of_ble_eq_true rfl) dL_law_629 (fun ru1 Mu1 qu1 => ?_)
      rw [e136] at qu1
      obtain ⟨hr1, hm1⟩ := qu1
      have hS9 : Mu1.1 135 7 = nI 0 ∧ Mu1.2 145 0 = _ ∧ RR Mu1 := S_up hX hsv (by decide) hc (gq_gz (gq_h hq0 hp (ok9_of w3))) (gv_uh (sv_gv hsv hlt6 hg hn8 (by decide) (by decide)) hn8 (by omega)) (by omega) e1 e2 (by rw [hm1]; exact ms_I e136)
      have hv9 : Mu1.2 145 0 = ru1.toInt64 := by rw [hS9.2.1, hvv, hr1]
      refine r_istore C [(6, .int ru1), (5, .int (nI 0)), (0, .ref b9), (1, .ref (ad 117)), (2, .ref (ad 135)), (3, .ref (ad 145)), (4, .int (nI i9))] dL_law_632 (by decide) rfl ?_
      refine r_aload_n C dL_law_634 rfl 4 rfl ?_
      refine r_pcallV_i (nA := 0) C (by omega) [] (c_X8_thrown l D cs ad Mu1) (tt_V ml_L_98 im_X8_thrown se_X8_thrown in_X8 co_X8_thrown) ⟨rfl, rfl⟩ ⟨rfl, by decide, by decide, by decide⟩ ⟨Nat.le_of_ble_eq_true rfl, Nat.le_of_ble_eq_true rfl⟩ (by decide) rfl rfl rfl rfl rfl (Nat.le_of_ble_eq_true rfl) dL_law_635 ?_
      refine r_topi (w := nI 0) hS9.1 ?_
      refine r_iload C dL_law_638 1 rfl ?_
      refine r_icmpN_eq C 645 dL_law_640 (by decide) (by omega) (by omega) (fun h640 => ?_) (fun h640 => ?_)
      ·
        refine r_iload C dL_law_645 1 rfl ?_
        refine r_if_ne C 662 dL_law_647 (by decide) (fun h647 => ?_) (fun h647 => ?_)
        · exact absurd rfl h647
        ·
          refine r_aload_n C dL_law_650 rfl 5 rfl ?_
          refine r_iconst C (nI 0) dL_law_651 (by decide) ?_
          refine r_lald C (id := 145) (n := 1) (a := 0) (by decide) rfl (by decide) (by decide) dL_law_652 ?_
          refine r_topl (w := ru1.toInt64) hv9 ?_
          refine r_iload C dL_law_653 0 rfl ?_
          refine r_i2l C dL_law_655 ?_
          refine r_lcmp C dL_law_656 ?_
          refine r_if_eq C 662 dL_law_657 (by decide) (fun h657 => ?_) (fun h657 => ?_)
          ·
            rw [lgc_eq] at h657
            refine r_goto C 1584 dL_law_662 (by decide) ?_
            refine r_lv (lv2 := [(0, .ref b9), (1, .ref (ad 117)), (2, .ref (ad 135)), (3, .ref (ad 145)), (4, .int (nI i9))]) [2, 3, 4, 5, 6] rfl ?_
            exact k9 _ _ hS9.2.2 (by omega)
          · exact absurd (lgcT _) h657
      · exact absurd h640 (by decide)
set_option maxRecDepth 100000 in
set_option maxHeartbeats 4000000 in
theorem LC_labelByColors {l : Launch} {D : va_G} {cs : Nat → ClassId} {ad : Nat → Nat} {κ : Kx} {u U : Nat} {M : Mm} (C : CX D cs ad cL_law 9 RL 2048 84000 U κ) (hN : CN ad κ) (hfl : l.stackTraces = false) {b9 L i9 : Nat} {xs : Nat → Int32} (hSc : CSX ad b9 L xs κ) (hL : L ≤ 2048) (hj : i9 + 4 ≤ L) {s9 lt len n d : Nat} {ct : Nat → Nat} (hX : RX M s9 lt len ct n d) (hu : u + 1 ≤ U) (k9 : ∀ (u2 : Nat) (M2 : Mm), RR M2 → u2 ≤ u + 1 → VV l D cs ad 9 κ u2 M2 1584 [(0, .ref b9), (1, .ref (ad 117)), (2, .ref (ad 135)), (3, .ref (ad 145)), (4, .int (nI i9))] []) : VV l D cs ad 9 κ u M 665 [(0, .ref b9), (1, .ref (ad 117)), (2, .ref (ad 135)), (3, .ref (ad 145)), (4, .int (nI i9))] [] := by
  obtain ⟨hz, hg, hpm, hks, hkh, hkt, hms, hml, htx⟩ := (show RX M s9 lt len ct n d from hX)
  obtain ⟨hzn, hzd, ⟨hn1, hn8⟩, ⟨hd1, hd4⟩, ⟨mk, hk⟩, hsy, hw9, hlb, hhb, hlz, hz0⟩ := (show gz (M.1 136) n d from hz)
  obtain ⟨hlt, hlt6, hs, hs6, hhi⟩ := (show KH M (fun j p => M.1 137 (55 * j + p)) s9 lt from hkh)
  obtain ⟨hlen, hl60, hct⟩ := (show KT M ct len from hkt)
  have hm := gk_gm hn8 hk
  obtain ⟨e0, hq0⟩ := gz_gq hz
  by_cases hcd : cnK (M.1 136) n ≤ d
  ·
    refine r_aload_n C dL_law_665 rfl 1 rfl ?_
    refine r_aload_n C dL_law_666 rfl 3 rfl ?_
    refine r_wcall C hN (u1 := 0) (nA := 2) (by omega) [.ref (ad 117), .ref (ad 145)] (w_labelByColors l D cs ad M (M.1 136) n d hg hn8 lt hlt hlt6 s9 hs hs6 hm hsy hn1 hd4 hcd) (tt_W ml_L_126 st_L_labelByColors in_L co_L_labelByColors) ⟨by decide, by decide, by decide⟩ ⟨Nat.le_of_ble_eq_true rfl, Nat.le_of_ble_eq_true rfl⟩ rfl rfl (Nat.le_of_ble_eq_true rfl) dL_law_667 (fun rw1 Mw qw => ?_)
    obtain ⟨rfl, v9, M9, hp9, hw9b⟩ := qw
    have e1 : Mw.1 = M9.1 := by rw [hw9b]; rfl
    have e2 : Mw.2 145 0 = v9.toInt64 := by rw [hw9b, mJ_eq, vL_e]
    obtain ⟨hvv, M1, M8, hfn, hsv, ho, hg3⟩ := hp9
    have eM : ∀ i, 135 ≤ i → Mw.1 i = M.1 i := fun i hi => by rw [e1]; exact (show ∀ i, 135 ≤ i → M9.1 i = M.1 i from eM_lc hlt6 hfn hsv ho) i hi
    have e136 : Mw.1 136 = M.1 136 := eM 136 (by decide)
    refine r_istore C [(5, .int (nI 0)), (0, .ref b9), (1, .ref (ad 117)), (2, .ref (ad 135)), (3, .ref (ad 145)), (4, .int (nI i9))] dL_law_670 (by decide) rfl ?_
    refine r_aload_n C dL_law_672 rfl 3 rfl ?_
    refine r_callV_i (nA := 0) C (by omega) [] (c_X8_labelByColors l D cs ad Mw n (by rw [e136]; exact hz.1) hn8 d (by rw [e136]; exact hz.2.1) hd4 s9 (by rw [eM 135 (by decide)]; exact hms) hs6 hn1 (by rw [e136]; exact co_ex _ hn8 hn1) (by rw [e136]; exact hcd)) (tt_V ml_L_129 im_X8_labelByColors se_X8_labelByColors in_X8 co_X8_labelByColors) ⟨rfl, rfl⟩ ⟨rfl, by decide, by decide, by decide⟩ ⟨Nat.le_of_ble_eq_true rfl, Nat.le_of_ble_eq_true rfl⟩ (by decide) rfl rfl rfl rfl rfl (Nat.le_of_ble_eq_true rfl) dL_law_673 (fun ru1 Mu1 qu1 => ?_)
    rw [e136] at qu1
    obtain ⟨c2, hr1, hm1⟩ := qu1
    have hS9 : Mu1.1 135 7 = nI 0 ∧ Mu1.2 145 0 = _ ∧ RR Mu1 := S_lc hX hfn hsv ho hg3 (gq_gz (gq_lc hq0 hcd)) (lc_54 hn8) e1 e2 (by rw [hm1]; exact ms_A1)
    have hv9 : Mu1.2 145 0 = ru1.toInt64 := by rw [hS9.2.1, hvv, hr1]
    refine r_istore C [(6, .int ru1), (5, .int (nI 0)), (0, .ref b9), (1, .ref (ad 117)), (2, .ref (ad 135)), (3, .ref (ad 145)), (4, .int (nI i9))] dL_law_676 (by decide) rfl ?_
    refine r_aload_n C dL_law_678 rfl 4 rfl ?_
    refine r_pcallV_i (nA := 0) C (by omega) [] (c_X8_thrown l D cs ad Mu1) (tt_V ml_L_98 im_X8_thrown se_X8_thrown in_X8 co_X8_thrown) ⟨rfl, rfl⟩ ⟨rfl, by decide, by decide, by decide⟩ ⟨Nat.le_of_ble_eq_true rfl, Nat.le_of_ble_eq_true rfl⟩ (by decide) rfl rfl rfl rfl rfl (Nat.le_of_ble_eq_true rfl) dL_law_679 ?_
    refine r_topi (w := nI 0) hS9.1 ?_
    refine r_iload C dL_law_682 1 rfl ?_
    refine r_icmpN_eq C 689 dL_law_684 (by decide) (by omega) (by omega) (fun h684 => ?_) (fun h684 => ?_)
    ·
      refine r_iload C dL_law_689 1 rfl ?_
      refine r_if_ne C 706 dL_law_691 (by decide) (fun h691 => ?_) (fun h691 => ?_)
      · exact absurd rfl h691
      ·
        refine r_aload_n C dL_law_694 rfl 5 rfl ?_
        refine r_iconst C (nI 0) dL_law_695 (by decide) ?_
        refine r_lald C (id := 145) (n := 1) (a := 0) (by decide) rfl (by decide) (by decide) dL_law_696 ?_
        refine r_topl (w := ru1.toInt64) hv9 ?_
        refine r_iload C dL_law_697 0 rfl ?_
        refine r_i2l C dL_law_699 ?_
        refine r_lcmp C dL_law_700 ?_
        refine r_if_eq C 706 dL_law_701 (by decide) (fun h701 => ?_) (fun h701 => ?_)
        ·
          rw [lgc_eq] at h701
          refine r_goto C 1584 dL_law_706 (by decide) ?_
          refine r_lv (lv2 := [(0, .ref b9), (1, .ref (ad 117)), (2, .ref (ad 135)), (3, .ref (ad 145)), (4, .int (nI i9))]) [2, 3, 4, 5, 6] rfl ?_
          exact k9 _ _ hS9.2.2 (by omega)
        · exact absurd (lgcT _) h701
    · exact absurd h684 (by decide)
  ·
    refine r_aload_n C dL_law_665 rfl 1 rfl ?_
    refine r_aload_n C dL_law_666 rfl 3 rfl ?_
    refine r_wcall C hN (u1 := 1) (nA := 2) (by omega) [.ref (ad 117), .ref (ad 145)] (w_labelByColorsX l D cs ad hfl M (M.1 136) n d hg hn8 hm hsy hn1 hd4 (cn_le hn8) hcd) (tt_W ml_L_126 st_L_labelByColors in_L co_L_labelByColors) ⟨by decide, by decide, by decide⟩ ⟨Nat.le_of_ble_eq_true rfl, Nat.le_of_ble_eq_true rfl⟩ rfl rfl (Nat.le_of_ble_eq_true rfl) dL_law_667 (fun rw1 Mw qw => ?_)
    obtain ⟨rfl, hc⟩ := qw
    have e1 : Mw.1 = Mw.1 := rfl
    have e2 : Mw.2 145 0 = Mw.2 145 0 := rfl
    have eM : ∀ i, 135 ≤ i → Mw.1 i = M.1 i := eM_lk (lk_fn hc)
    have e136 : Mw.1 136 = M.1 136 := eM 136 (by decide)
    refine r_istore C [(5, .int (nI 1)), (0, .ref b9), (1, .ref (ad 117)), (2, .ref (ad 135)), (3, .ref (ad 145)), (4, .int (nI i9))] dL_law_670 (by decide) rfl ?_
    refine r_aload_n C dL_law_672 rfl 3 rfl ?_
    refine r_callV_i (nA := 0) C (by omega) [] (c_X8_labelByColorsX l D cs ad Mw n (by rw [e136]; exact hz.1) hn8 d (by rw [e136]; exact hz.2.1) hd4 hn1 (by rw [e136]; exact co_ex _ hn8 hn1) (by rw [e136]; exact hcd)) (tt_V ml_L_129 im_X8_labelByColors se_X8_labelByColors in_X8 co_X8_labelByColors) ⟨rfl, rfl⟩ ⟨rfl, by decide, by decide, by decide⟩ ⟨Nat.le_of_ble_eq_true rfl, Nat.le_of_ble_eq_true rfl⟩ (by decide) rfl rfl rfl rfl rfl (Nat.le_of_ble_eq_true rfl) dL_law_673 (fun ru1 Mu1 qu1 => ?_)
    obtain ⟨c2, hr1, hm1⟩ := qu1
    have hS9 : Mu1.1 135 7 = nI 1 ∧ Mu1.2 145 0 = _ ∧ RR Mu1 := S_lk hX (lk_fn hc) e1 e2 (show SQ (mI Mw 135 7 (nI 1)) Mu1 by rw [hm1]; exact SQ.AI (by decide))
    refine r_istore C [(6, .int ru1), (5, .int (nI 1)), (0, .ref b9), (1, .ref (ad 117)), (2, .ref (ad 135)), (3, .ref (ad 145)), (4, .int (nI i9))] dL_law_676 (by decide) rfl ?_
    refine r_aload_n C dL_law_678 rfl 4 rfl ?_
    refine r_pcallV_i (nA := 0) C (by omega) [] (c_X8_thrown l D cs ad Mu1) (tt_V ml_L_98 im_X8_thrown se_X8_thrown in_X8 co_X8_thrown) ⟨rfl, rfl⟩ ⟨rfl, by decide, by decide, by decide⟩ ⟨Nat.le_of_ble_eq_true rfl, Nat.le_of_ble_eq_true rfl⟩ (by decide) rfl rfl rfl rfl rfl (Nat.le_of_ble_eq_true rfl) dL_law_679 ?_
    refine r_topi (w := nI 1) hS9.1 ?_
    refine r_iload C dL_law_682 1 rfl ?_
    refine r_icmpN_eq C 689 dL_law_684 (by decide) (by omega) (by omega) (fun h684 => ?_) (fun h684 => ?_)
    ·
      refine r_iload C dL_law_689 1 rfl ?_
      refine r_if_ne C 706 dL_law_691 (by decide) (fun h691 => ?_) (fun h691 => ?_)
      ·
        refine r_goto C 1584 dL_law_706 (by decide) ?_
        refine r_lv (lv2 := [(0, .ref b9), (1, .ref (ad 117)), (2, .ref (ad 135)), (3, .ref (ad 145)), (4, .int (nI i9))]) [2, 3, 4, 5, 6] rfl ?_
        exact k9 _ _ hS9.2.2 (by omega)
      · exact absurd h691 (by decide)
    · exact absurd h684 (by decide)
set_option maxRecDepth 100000 in
set_option maxHeartbeats 4000000 in
theorem LC_takeHandle {l : Launch} {D : va_G} {cs : Nat → ClassId} {ad : Nat → Nat} {κ : Kx} {u U : Nat} {M : Mm} (C : CX D cs ad cL_law 9 RL 2048 84000 U κ) (hN : CN ad κ) (hfl : l.stackTraces = false) {b9 L i9 : Nat} {xs : Nat → Int32} (hSc : CSX ad b9 L xs κ) (hL : L ≤ 2048) (hj : i9 + 4 ≤ L) {s9 lt len n d : Nat} {ct : Nat → Nat} (hX : RX M s9 lt len ct n d) (hu : u + 1 ≤ U) (k9 : ∀ (u2 : Nat) (M2 : Mm), RR M2 → u2 ≤ u + 1 → VV l D cs ad 9 κ u2 M2 1584 [(0, .ref b9), (1, .ref (ad 117)), (2, .ref (ad 135)), (3, .ref (ad 145)), (4, .int (nI i9))] []) : VV l D cs ad 9 κ u M 709 [(0, .ref b9), (1, .ref (ad 117)), (2, .ref (ad 135)), (3, .ref (ad 145)), (4, .int (nI i9))] [] := by
  obtain ⟨hz, hg, hpm, hks, hkh, hkt, hms, hml, htx⟩ := (show RX M s9 lt len ct n d from hX)
  obtain ⟨hzn, hzd, ⟨hn1, hn8⟩, ⟨hd1, hd4⟩, ⟨mk, hk⟩, hsy, hw9, hlb, hhb, hlz, hz0⟩ := (show gz (M.1 136) n d from hz)
  obtain ⟨hlt, hlt6, hs, hs6, hhi⟩ := (show KH M (fun j p => M.1 137 (55 * j + p)) s9 lt from hkh)
  obtain ⟨hlen, hl60, hct⟩ := (show KT M ct len from hkt)
  have hm := gk_gm hn8 hk
  obtain ⟨e0, hq0⟩ := gz_gq hz
  cases w1 : (wit (xs (i9 + 1)) (nI 1) (nI 2)) with
  | false =>
    refine r_aload_n C dL_law_709 rfl 1 rfl ?_
    refine r_aload_n C dL_law_710 rfl 0 rfl ?_
    refine r_iload C dL_law_711 4 rfl ?_
    refine r_iconst C (nI 1) dL_law_713 (by decide) ?_
    refine r_iadd C dL_law_714 ?_
    refine r_topi (nI_add i9 1) ?_
    refine r_sld C hSc (by omega) hL dL_law_715 ?_
    refine r_aload_n C dL_law_716 rfl 3 rfl ?_
    refine r_wcall C hN (u1 := 1) (nA := 3) (by omega) [.ref (ad 117), .int (xs (i9 + 1)), .ref (ad 145)] (w_takeHandleX l D cs ad hfl M (xs (i9 + 1)) w1) (tt_W ml_L_130 st_L_takeHandle in_L co_L_takeHandle) ⟨by decide, by decide, by decide⟩ ⟨Nat.le_of_ble_eq_true rfl, Nat.le_of_ble_eq_true rfl⟩ rfl rfl (Nat.le_of_ble_eq_true rfl) dL_law_717 (fun rw1 Mw qw => ?_)
    obtain ⟨rfl, hc⟩ := qw
    have e1 : Mw.1 = Mw.1 := rfl
    have e2 : Mw.2 145 0 = Mw.2 145 0 := rfl
    have eM : ∀ i, 135 ≤ i → Mw.1 i = M.1 i := eM_lk (lk_eq hc)
    have e136 : Mw.1 136 = M.1 136 := eM 136 (by decide)
    refine r_istore C [(5, .int (nI 1)), (0, .ref b9), (1, .ref (ad 117)), (2, .ref (ad 135)), (3, .ref (ad 145)), (4, .int (nI i9))] dL_law_720 (by decide) rfl ?_
    refine r_aload_n C dL_law_722 rfl 3 rfl ?_
    refine r_aload_n C dL_law_723 rfl 1 rfl ?_
    refine r_iload C dL_law_724 5 rfl ?_
    refine r_iconst C (nI 1) dL_law_726 (by decide) ?_
    refine r_iadd C dL_law_727 ?_
    refine r_topi (nI_add i9 1) ?_
    refine r_sld C hSc (by omega) hL dL_law_728 ?_
    refine r_callV_i (nA := 1) C (by omega) [.int (xs (i9 + 1))] (c_X8_takeHandleX l D cs ad Mw (xs (i9 + 1)) w1) (tt_V ml_L_132 im_X8_takeHandle se_X8_takeHandle in_X8 co_X8_takeHandle) ⟨rfl, rfl⟩ ⟨rfl, by decide, by decide, by decide⟩ ⟨Nat.le_of_ble_eq_true rfl, Nat.le_of_ble_eq_true rfl⟩ (by decide) rfl rfl rfl rfl rfl (Nat.le_of_ble_eq_true rfl) dL_law_729 (fun ru1 Mu1 qu1 => ?_)
    obtain ⟨hr1, hm1⟩ := qu1
    have hS9 : Mu1.1 135 7 = nI 1 ∧ Mu1.2 145 0 = _ ∧ RR Mu1 := S_lk hX (lk_eq hc) e1 e2 (show SQ (mI Mw 135 7 (nI 1)) Mu1 by rw [hm1]; exact SQ.rf _)
    refine r_istore C [(6, .int ru1), (5, .int (nI 1)), (0, .ref b9), (1, .ref (ad 117)), (2, .ref (ad 135)), (3, .ref (ad 145)), (4, .int (nI i9))] dL_law_732 (by decide) rfl ?_
    refine r_aload_n C dL_law_734 rfl 4 rfl ?_
    refine r_pcallV_i (nA := 0) C (by omega) [] (c_X8_thrown l D cs ad Mu1) (tt_V ml_L_98 im_X8_thrown se_X8_thrown in_X8 co_X8_thrown) ⟨rfl, rfl⟩ ⟨rfl, by decide, by decide, by decide⟩ ⟨Nat.le_of_ble_eq_true rfl, Nat.le_of_ble_eq_true rfl⟩ (by decide) rfl rfl rfl rfl rfl (Nat.le_of_ble_eq_true rfl) dL_law_735 ?_
    refine r_topi (w := nI 1) hS9.1 ?_
    refine r_iload C dL_law_738 1 rfl ?_
    refine r_icmpN_eq C 745 dL_law_740 (by decide) (by omega) (by omega) (fun h740 => ?_) (fun h740 => ?_)
    ·
      refine r_iload C dL_law_745 1 rfl ?_
      refine r_if_ne C 762 dL_law_747 (by decide) (fun h747 => ?_) (fun h747 => ?_)
      ·
        refine r_goto C 1584 dL_law_762 (by decide) ?_
        refine r_lv (lv2 := [(0, .ref b9), (1, .ref (ad 117)), (2, .ref (ad 135)), (3, .ref (ad 145)), (4, .int (nI i9))]) [2, 3, 4, 5, 6] rfl ?_
        exact k9 _ _ hS9.2.2 (by omega)
      · exact absurd h747 (by decide)
    · exact absurd h740 (by decide)
  | true =>
    obtain ⟨size, hs1, hs2, p1⟩ := wit_rg (by decide) (by decide) w1
    obtain ⟨bb, hbb⟩ : ∃ bb, 2 * size + 1 = bb := ⟨_, rfl⟩
    refine r_aload_n C dL_law_709 rfl 1 rfl ?_
    refine r_aload_n C dL_law_710 rfl 0 rfl ?_
    refine r_iload C dL_law_711 4 rfl ?_
    refine r_iconst C (nI 1) dL_law_713 (by decide) ?_
    refine r_iadd C dL_law_714 ?_
    refine r_topi (nI_add i9 1) ?_
    refine r_sld C hSc (by omega) hL dL_law_715 ?_
    refine r_topi (w := nI size) p1 ?_
    refine r_aload_n C dL_law_716 rfl 3 rfl ?_
    refine r_wcall C hN (u1 := 0) (nA := 3) (by omega) [.ref (ad 117), .int (nI size), .ref (ad 145)] (w_takeHandle l D cs ad M (M.1 136) n d hg hn8 lt hlt hlt6 s9 hs hs6 hm hd4 size bb hbb hs1 hs2 mk hk hz0 (wtz (M.1 136)) (Uz (M.1 136)) (fun c => Sz (hnR (M.1 136) d c bb size d)) (fun c => Hz (hnR (M.1 136) d c bb size d)) (gz_L hz hs2 hbb).1 (gz_L hz hs2 hbb).2) (tt_W ml_L_130 st_L_takeHandle in_L co_L_takeHandle) ⟨by decide, by decide, by decide⟩ ⟨Nat.le_of_ble_eq_true rfl, Nat.le_of_ble_eq_true rfl⟩ rfl rfl (Nat.le_of_ble_eq_true rfl) dL_law_717 (fun rw1 Mw qw => ?_)
    obtain ⟨rfl, v9, M9, hp9, hw9b⟩ := qw
    have e1 : Mw.1 = M9.1 := by rw [hw9b]; rfl
    have e2 : Mw.2 145 0 = v9.toInt64 := by rw [hw9b, mJ_eq, vL_e]
    obtain ⟨M1, M8, hrn, hsv, hc⟩ := hp9
    have eM : ∀ i, 135 ≤ i → Mw.1 i = M.1 i := fun i hi => by rw [e1]; exact (show ∀ i, 135 ≤ i → M9.1 i = M.1 i from eM_th hlt6 hrn hsv (hc.imp (fun w => ⟨w.1, w.2.2⟩) (fun w => ⟨w.1, w.2.2⟩))) i hi
    have e136 : Mw.1 136 = M.1 136 := eM 136 (by decide)
    refine r_istore C [(5, .int (nI 0)), (0, .ref b9), (1, .ref (ad 117)), (2, .ref (ad 135)), (3, .ref (ad 145)), (4, .int (nI i9))] dL_law_720 (by decide) rfl ?_
    refine r_aload_n C dL_law_722 rfl 3 rfl ?_
    refine r_aload_n C dL_law_723 rfl 1 rfl ?_
    refine r_iload C dL_law_724 5 rfl ?_
    refine r_iconst C (nI 1) dL_law_726 (by decide) ?_
    refine r_iadd C dL_law_727 ?_
    refine r_topi (nI_add i9 1) ?_
    refine r_sld C hSc (by omega) hL dL_law_728 ?_
    refine r_topi (w := nI size) p1 ?_
    refine r_callV_i (nA := 1) C (by omega) [.int (nI size)] (c_X8_takeHandle l D cs ad Mw n (by rw [e136]; exact hz.1) hn8 d (by rw [e136]; exact hz.2.1) hd4 s9 (by rw [eM 135 (by decide)]; exact hms) hs6 size bb hbb hs1 hs2 (wtz (M.1 136)) (Uz (M.1 136)) (fun c => Sz (hnR (M.1 136) d c bb size d)) (fun c => Hz (hnR (M.1 136) d c bb size d)) (by rw [e136]; exact (gz_L hz hs2 hbb).1)) (tt_V ml_L_132 im_X8_takeHandle se_X8_takeHandle in_X8 co_X8_takeHandle) ⟨rfl, rfl⟩ ⟨rfl, by decide, by decide, by decide⟩ ⟨Nat.le_of_ble_eq_true rfl, Nat.le_of_ble_eq_true rfl⟩ (by decide) rfl rfl rfl rfl rfl (Nat.le_of_ble_eq_true rfl) dL_law_729 (fun ru1 Mu1 qu1 => ?_)
    rw [e136] at qu1
    obtain ⟨M7, hsc, hm1⟩ := qu1
    have hS9 : Mu1.1 135 7 = nI 0 ∧ Mu1.2 145 0 = _ ∧ RR Mu1 := S_th hX hs2 hbb hrn hsv hc e1 e2 hsc hm1
    have hv9 : Mu1.2 145 0 = ru1.toInt64 := by exact hS9.2.1
    refine r_istore C [(6, .int ru1), (5, .int (nI 0)), (0, .ref b9), (1, .ref (ad 117)), (2, .ref (ad 135)), (3, .ref (ad 145)), (4, .int (nI i9))] dL_law_732 (by decide) rfl ?_
    refine r_aload_n C dL_law_734 rfl 4 rfl ?_
    refine r_pcallV_i (nA := 0) C (by omega) [] (c_X8_thrown l D cs ad Mu1) (tt_V ml_L_98 im_X8_thrown se_X8_thrown in_X8 co_X8_thrown) ⟨rfl, rfl⟩ ⟨rfl, by decide, by decide, by decide⟩ ⟨Nat.le_of_ble_eq_true rfl, Nat.le_of_ble_eq_true rfl⟩ (by decide) rfl rfl rfl rfl rfl (Nat.le_of_ble_eq_true rfl) dL_law_735 ?_
    refine r_topi (w := nI 0) hS9.1 ?_
    refine r_iload C dL_law_738 1 rfl ?_
    refine r_icmpN_eq C 745 dL_law_740 (by decide) (by omega) (by omega) (fun h740 => ?_) (fun h740 => ?_)
    ·
      refine r_iload C dL_law_745 1 rfl ?_
      refine r_if_ne C 762 dL_law_747 (by decide) (fun h747 => ?_) (fun h747 => ?_)
      · exact absurd rfl h747
      ·
        refine r_aload_n C dL_law_750 rfl 5 rfl ?_
        refine r_iconst C (nI 0) dL_law_751 (by decide) ?_
        refine r_lald C (id := 145) (n := 1) (a := 0) (by decide) rfl (by decide) (by decide) dL_law_752 ?_
        refine r_topl (w := ru1.toInt64) hv9 ?_
        refine r_iload C dL_law_753 0 rfl ?_
        refine r_i2l C dL_law_755 ?_
        refine r_lcmp C dL_law_756 ?_
        refine r_if_eq C 762 dL_law_757 (by decide) (fun h757 => ?_) (fun h757 => ?_)
        ·
          rw [lgc_eq] at h757
          refine r_goto C 1584 dL_law_762 (by decide) ?_
          refine r_lv (lv2 := [(0, .ref b9), (1, .ref (ad 117)), (2, .ref (ad 135)), (3, .ref (ad 145)), (4, .int (nI i9))]) [2, 3, 4, 5, 6] rfl ?_
          exact k9 _ _ hS9.2.2 (by omega)
        · exact absurd (lgcT _) h757
    · exact absurd h740 (by decide)
set_option maxRecDepth 100000 in
set_option maxHeartbeats 4000000 in
theorem LC_append {l : Launch} {D : va_G} {cs : Nat → ClassId} {ad : Nat → Nat} {κ : Kx} {u U : Nat} {M : Mm} (C : CX D cs ad cL_law 9 RL 2048 84000 U κ) (hN : CN ad κ) (hfl : l.stackTraces = false) {b9 L i9 : Nat} {xs : Nat → Int32} (hSc : CSX ad b9 L xs κ) (hL : L ≤ 2048) (hj : i9 + 4 ≤ L) {s9 lt len n d : Nat} {ct : Nat → Nat} (hX : RX M s9 lt len ct n d) (hu : u + 1 ≤ U) (k9 : ∀ (u2 : Nat) (M2 : Mm), RR M2 → u2 ≤ u + 1 → VV l D cs ad 9 κ u2 M2 1584 [(0, .ref b9), (1, .ref (ad 117)), (2, .ref (ad 135)), (3, .ref (ad 145)), (4, .int (nI i9))] []) : VV l D cs ad 9 κ u M 765 [(0, .ref b9), (1, .ref (ad 117)), (2, .ref (ad 135)), (3, .ref (ad 145)), (4, .int (nI i9))] [] := by
  obtain ⟨hz, hg, hpm, hks, hkh, hkt, hms, hml, htx⟩ := (show RX M s9 lt len ct n d from hX)
  obtain ⟨hzn, hzd, ⟨hn1, hn8⟩, ⟨hd1, hd4⟩, ⟨mk, hk⟩, hsy, hw9, hlb, hhb, hlz, hz0⟩ := (show gz (M.1 136) n d from hz)
  obtain ⟨hlt, hlt6, hs, hs6, hhi⟩ := (show KH M (fun j p => M.1 137 (55 * j + p)) s9 lt from hkh)
  obtain ⟨hlen, hl60, hct⟩ := (show KT M ct len from hkt)
  have hm := gk_gm hn8 hk
  obtain ⟨e0, hq0⟩ := gz_gq hz
  cases w1 : (wit (xs (i9 + 1)) (nI 33) (nI 126)) with
  | false =>
    refine r_aload_n C dL_law_765 rfl 1 rfl ?_
    refine r_aload_n C dL_law_766 rfl 0 rfl ?_
    refine r_iload C dL_law_767 4 rfl ?_
    refine r_iconst C (nI 1) dL_law_769 (by decide) ?_
    refine r_iadd C dL_law_770 ?_
    refine r_topi (nI_add i9 1) ?_
    refine r_sld C hSc (by omega) hL dL_law_771 ?_
    refine r_aload_n C dL_law_772 rfl 3 rfl ?_
    refine r_wcall C hN (u1 := 1) (nA := 3) (by omega) [.ref (ad 117), .int (xs (i9 + 1)), .ref (ad 145)] (w_appendX l D cs ad hfl M (xs (i9 + 1)) w1) (tt_W ml_L_133 st_L_append in_L co_L_append) ⟨by decide, by decide, by decide⟩ ⟨Nat.le_of_ble_eq_true rfl, Nat.le_of_ble_eq_true rfl⟩ rfl rfl (Nat.le_of_ble_eq_true rfl) dL_law_773 (fun rw1 Mw qw => ?_)
    obtain ⟨rfl, hc⟩ := qw
    have e1 : Mw.1 = Mw.1 := rfl
    have e2 : Mw.2 145 0 = Mw.2 145 0 := rfl
    have eM : ∀ i, 135 ≤ i → Mw.1 i = M.1 i := eM_lk (lk_eq hc)
    have e136 : Mw.1 136 = M.1 136 := eM 136 (by decide)
    refine r_istore C [(5, .int (nI 1)), (0, .ref b9), (1, .ref (ad 117)), (2, .ref (ad 135)), (3, .ref (ad 145)), (4, .int (nI i9))] dL_law_776 (by decide) rfl ?_
    refine r_aload_n C dL_law_778 rfl 3 rfl ?_
    refine r_aload_n C dL_law_779 rfl 1 rfl ?_
    refine r_iload C dL_law_780 5 rfl ?_
    refine r_iconst C (nI 1) dL_law_782 (by decide) ?_
    refine r_iadd C dL_law_783 ?_
    refine r_topi (nI_add i9 1) ?_
    refine r_sld C hSc (by omega) hL dL_law_784 ?_
    refine r_callV_i (nA := 1) C (by omega) [.int (xs (i9 + 1))] (c_X8_appendX l D cs ad Mw (xs (i9 + 1)) w1) (tt_V ml_L_135 im_X8_append se_X8_append in_X8 co_X8_append) ⟨rfl, rfl⟩ ⟨rfl, by decide, by decide, by decide⟩ ⟨Nat.le_of_ble_eq_true rfl, Nat.le_of_ble_eq_true rfl⟩ (by decide) rfl rfl rfl rfl rfl (Nat.le_of_ble_eq_true rfl) dL_law_785 (fun ru1 Mu1 qu1 => ?_)
    obtain ⟨hr1, hm1⟩ := qu1
    have hS9 : Mu1.1 135 7 = nI 1 ∧ Mu1.2 145 0 = _ ∧ RR Mu1 := S_lk hX (lk_eq hc) e1 e2 (show SQ (mI Mw 135 7 (nI 1)) Mu1 by rw [hm1]; exact SQ.rf _)
    refine r_istore C [(6, .int ru1), (5, .int (nI 1)), (0, .ref b9), (1, .ref (ad 117)), (2, .ref (ad 135)), (3, .ref (ad 145)), (4, .int (nI i9))] dL_law_788 (by decide) rfl ?_
    refine r_aload_n C dL_law_790 rfl 4 rfl ?_
    refine r_pcallV_i (nA := 0) C (by omega) [] (c_X8_thrown l D cs ad Mu1) (tt_V ml_L_98 im_X8_thrown se_X8_thrown in_X8 co_X8_thrown) ⟨rfl, rfl⟩ ⟨rfl, by decide, by decide, by decide⟩ ⟨Nat.le_of_ble_eq_true rfl, Nat.le_of_ble_eq_true rfl⟩ (by decide) rfl rfl rfl rfl rfl (Nat.le_of_ble_eq_true rfl) dL_law_791 ?_
    refine r_topi (w := nI 1) hS9.1 ?_
    refine r_iload C dL_law_794 1 rfl ?_
    refine r_icmpN_eq C 801 dL_law_796 (by decide) (by omega) (by omega) (fun h796 => ?_) (fun h796 => ?_)
    ·
      refine r_iload C dL_law_801 1 rfl ?_
      refine r_if_ne C 818 dL_law_803 (by decide) (fun h803 => ?_) (fun h803 => ?_)
      ·
        refine r_goto C 1584 dL_law_818 (by decide) ?_
        refine r_lv (lv2 := [(0, .ref b9), (1, .ref (ad 117)), (2, .ref (ad 135)), (3, .ref (ad 145)), (4, .int (nI i9))]) [2, 3, 4, 5, 6] rfl ?_
        exact k9 _ _ hS9.2.2 (by omega)
      · exact absurd h803 (by decide)
    · exact absurd h796 (by decide)
  | true =>
    obtain ⟨c, hc1, hc2, p1⟩ := wit_rg (by decide) (by decide) w1
    by_cases hl9 : len < 60
    ·
      refine r_aload_n C dL_law_765 rfl 1 rfl ?_
      refine r_aload_n C dL_law_766 rfl 0 rfl ?_
      refine r_iload C dL_law_767 4 rfl ?_
      refine r_iconst C (nI 1) dL_law_769 (by decide) ?_
      refine r_iadd C dL_law_770 ?_
      refine r_topi (nI_add i9 1) ?_
      refine r_sld C hSc (by omega) hL dL_law_771 ?_
      refine r_topi (w := nI c) p1 ?_
      refine r_aload_n C dL_law_772 rfl 3 rfl ?_
      refine r_wcall C hN (u1 := 0) (nA := 3) (by omega) [.ref (ad 117), .int (nI c), .ref (ad 145)] (w_append l D cs ad M len hlen hl60 c hc1 hc2 hl9) (tt_W ml_L_133 st_L_append in_L co_L_append) ⟨by decide, by decide, by decide⟩ ⟨Nat.le_of_ble_eq_true rfl, Nat.le_of_ble_eq_true rfl⟩ rfl rfl (Nat.le_of_ble_eq_true rfl) dL_law_773 (fun rw1 Mw qw => ?_)
      obtain ⟨rfl, v9, M9, hp9, hw9b⟩ := qw
      have e1 : Mw.1 = M9.1 := by rw [hw9b]; rfl
      have e2 : Mw.2 145 0 = v9.toInt64 := by rw [hw9b, mJ_eq, vL_e]
      obtain ⟨hvv, hc⟩ := hp9
      have eM : ∀ i, 135 ≤ i → Mw.1 i = M.1 i := fun i hi => by rw [e1]; exact (show ∀ i, 135 ≤ i → M9.1 i = M.1 i from by rw [hc]; exact eM_ap) i hi
      have e136 : Mw.1 136 = M.1 136 := eM 136 (by decide)
      refine r_istore C [(5, .int (nI 0)), (0, .ref b9), (1, .ref (ad 117)), (2, .ref (ad 135)), (3, .ref (ad 145)), (4, .int (nI i9))] dL_law_776 (by decide) rfl ?_
      refine r_aload_n C dL_law_778 rfl 3 rfl ?_
      refine r_aload_n C dL_law_779 rfl 1 rfl ?_
      refine r_iload C dL_law_780 5 rfl ?_
      refine r_iconst C (nI 1) dL_law_782 (by decide) ?_
      refine r_iadd C dL_law_783 ?_
      refine r_topi (nI_add i9 1) ?_
      refine r_sld C hSc (by omega) hL dL_law_784 ?_
      refine r_topi (w := nI c) p1 ?_
      refine r_callV_i (nA := 1) C (by omega) [.int (nI c)] (c_X8_append l D cs ad Mw len (by rw [eM 135 (by decide)]; exact hml) hl60 c hc1 hc2 hl9) (tt_V ml_L_135 im_X8_append se_X8_append in_X8 co_X8_append) ⟨rfl, rfl⟩ ⟨rfl, by decide, by decide, by decide⟩ ⟨Nat.le_of_ble_eq_true rfl, Nat.le_of_ble_eq_true rfl⟩ (by decide) rfl rfl rfl rfl rfl (Nat.le_of_ble_eq_true rfl) dL_law_785 (fun ru1 Mu1 qu1 => ?_)
      obtain ⟨hr1, hm1⟩ := qu1
      have hS9 : Mu1.1 135 7 = nI 0 ∧ Mu1.2 145 0 = _ ∧ RR Mu1 := S_ap hX hc1 hc2 hl9 hc e1 e2 hm1
      have hv9 : Mu1.2 145 0 = ru1.toInt64 := by rw [hS9.2.1, hvv, hr1]
      refine r_istore C [(6, .int ru1), (5, .int (nI 0)), (0, .ref b9), (1, .ref (ad 117)), (2, .ref (ad 135)), (3, .ref (ad 145)), (4, .int (nI i9))] dL_law_788 (by decide) rfl ?_
      refine r_aload_n C dL_law_790 rfl 4 rfl ?_
      refine r_pcallV_i (nA := 0) C (by omega) [] (c_X8_thrown l D cs ad Mu1) (tt_V ml_L_98 im_X8_thrown se_X8_thrown in_X8 co_X8_thrown) ⟨rfl, rfl⟩ ⟨rfl, by decide, by decide, by decide⟩ ⟨Nat.le_of_ble_eq_true rfl, Nat.le_of_ble_eq_true rfl⟩ (by decide) rfl rfl rfl rfl rfl (Nat.le_of_ble_eq_true rfl) dL_law_791 ?_
      refine r_topi (w := nI 0) hS9.1 ?_
      refine r_iload C dL_law_794 1 rfl ?_
      refine r_icmpN_eq C 801 dL_law_796 (by decide) (by omega) (by omega) (fun h796 => ?_) (fun h796 => ?_)
      ·
        refine r_iload C dL_law_801 1 rfl ?_
        refine r_if_ne C 818 dL_law_803 (by decide) (fun h803 => ?_) (fun h803 => ?_)
        · exact absurd rfl h803
        ·
          refine r_aload_n C dL_law_806 rfl 5 rfl ?_
          refine r_iconst C (nI 0) dL_law_807 (by decide) ?_
          refine r_lald C (id := 145) (n := 1) (a := 0) (by decide) rfl (by decide) (by decide) dL_law_808 ?_
          refine r_topl (w := ru1.toInt64) hv9 ?_
          refine r_iload C dL_law_809 0 rfl ?_
          refine r_i2l C dL_law_811 ?_
          refine r_lcmp C dL_law_812 ?_
          refine r_if_eq C 818 dL_law_813 (by decide) (fun h813 => ?_) (fun h813 => ?_)
          ·
            rw [lgc_eq] at h813
            refine r_goto C 1584 dL_law_818 (by decide) ?_
            refine r_lv (lv2 := [(0, .ref b9), (1, .ref (ad 117)), (2, .ref (ad 135)), (3, .ref (ad 145)), (4, .int (nI i9))]) [2, 3, 4, 5, 6] rfl ?_
            exact k9 _ _ hS9.2.2 (by omega)
          · exact absurd (lgcT _) h813
      · exact absurd h796 (by decide)
    ·
      obtain rfl : len = 60 := by omega
      refine r_aload_n C dL_law_765 rfl 1 rfl ?_
      refine r_aload_n C dL_law_766 rfl 0 rfl ?_
      refine r_iload C dL_law_767 4 rfl ?_
      refine r_iconst C (nI 1) dL_law_769 (by decide) ?_
      refine r_iadd C dL_law_770 ?_
      refine r_topi (nI_add i9 1) ?_
      refine r_sld C hSc (by omega) hL dL_law_771 ?_
      refine r_topi (w := nI c) p1 ?_
      refine r_aload_n C dL_law_772 rfl 3 rfl ?_
      refine r_wcall C hN (u1 := 1) (nA := 3) (by omega) [.ref (ad 117), .int (nI c), .ref (ad 145)] (w_appendY l D cs ad hfl M hlen c hc1 hc2) (tt_W ml_L_133 st_L_append in_L co_L_append) ⟨by decide, by decide, by decide⟩ ⟨Nat.le_of_ble_eq_true rfl, Nat.le_of_ble_eq_true rfl⟩ rfl rfl (Nat.le_of_ble_eq_true rfl) dL_law_773 (fun rw1 Mw qw => ?_)
      obtain ⟨rfl, hc⟩ := qw
      have e1 : Mw.1 = Mw.1 := rfl
      have e2 : Mw.2 145 0 = Mw.2 145 0 := rfl
      have eM : ∀ i, 135 ≤ i → Mw.1 i = M.1 i := eM_lk (lk_eq hc)
      have e136 : Mw.1 136 = M.1 136 := eM 136 (by decide)
      refine r_istore C [(5, .int (nI 2)), (0, .ref b9), (1, .ref (ad 117)), (2, .ref (ad 135)), (3, .ref (ad 145)), (4, .int (nI i9))] dL_law_776 (by decide) rfl ?_
      refine r_aload_n C dL_law_778 rfl 3 rfl ?_
      refine r_aload_n C dL_law_779 rfl 1 rfl ?_
      refine r_iload C dL_law_780 5 rfl ?_
      refine r_iconst C (nI 1) dL_law_782 (by decide) ?_
      refine r_iadd C dL_law_783 ?_
      refine r_topi (nI_add i9 1) ?_
      refine r_sld C hSc (by omega) hL dL_law_784 ?_
      refine r_topi (w := nI c) p1 ?_
      refine r_callV_i (nA := 1) C (by omega) [.int (nI c)] (c_X8_appendY l D cs ad Mw (by rw [eM 135 (by decide)]; exact hml) c hc1 hc2) (tt_V ml_L_135 im_X8_append se_X8_append in_X8 co_X8_append) ⟨rfl, rfl⟩ ⟨rfl, by decide, by decide, by decide⟩ ⟨Nat.le_of_ble_eq_true rfl, Nat.le_of_ble_eq_true rfl⟩ (by decide) rfl rfl rfl rfl rfl (Nat.le_of_ble_eq_true rfl) dL_law_785 (fun ru1 Mu1 qu1 => ?_)
      obtain ⟨hr1, hm1⟩ := qu1
      have hS9 : Mu1.1 135 7 = nI 2 ∧ Mu1.2 145 0 = _ ∧ RR Mu1 := S_lk hX (lk_eq hc) e1 e2 (show SQ (mI Mw 135 7 (nI 2)) Mu1 by rw [hm1]; exact SQ.rf _)
      refine r_istore C [(6, .int ru1), (5, .int (nI 2)), (0, .ref b9), (1, .ref (ad 117)), (2, .ref (ad 135)), (3, .ref (ad 145)), (4, .int (nI i9))] dL_law_788 (by decide) rfl ?_
      refine r_aload_n C dL_law_790 rfl 4 rfl ?_
      refine r_pcallV_i (nA := 0) C (by omega) [] (c_X8_thrown l D cs ad Mu1) (tt_V ml_L_98 im_X8_thrown se_X8_thrown in_X8 co_X8_thrown) ⟨rfl, rfl⟩ ⟨rfl, by decide, by decide, by decide⟩ ⟨Nat.le_of_ble_eq_true rfl, Nat.le_of_ble_eq_true rfl⟩ (by decide) rfl rfl rfl rfl rfl (Nat.le_of_ble_eq_true rfl) dL_law_791 ?_
      refine r_topi (w := nI 2) hS9.1 ?_
      refine r_iload C dL_law_794 1 rfl ?_
      refine r_icmpN_eq C 801 dL_law_796 (by decide) (by omega) (by omega) (fun h796 => ?_) (fun h796 => ?_)
      ·
        refine r_iload C dL_law_801 1 rfl ?_
        refine r_if_ne C 818 dL_law_803 (by decide) (fun h803 => ?_) (fun h803 => ?_)
        ·
          refine r_goto C 1584 dL_law_818 (by decide) ?_
          refine r_lv (lv2 := [(0, .ref b9), (1, .ref (ad 117)), (2, .ref (ad 135)), (3, .ref (ad 145)), (4, .int (nI i9))]) [2, 3, 4, 5, 6] rfl ?_
          exact k9 _ _ hS9.2.2 (by omega)
        · exact absurd h803 (by decide)
      · exact absurd h796 (by decide)
set_option maxRecDepth 100000 in
set_option maxHeartbeats 4000000 in
theorem LC_read {l : Launch} {D : va_G} {cs : Nat → ClassId} {ad : Nat → Nat} {κ : Kx} {u U : Nat} {M : Mm} (C : CX D cs ad cL_law 9 RL 2048 84000 U κ) (hN : CN ad κ) (hfl : l.stackTraces = false) {b9 L i9 : Nat} {xs : Nat → Int32} (hSc : CSX ad b9 L xs κ) (hL : L ≤ 2048) (hj : i9 + 4 ≤ L) {s9 lt len n d : Nat} {ct : Nat → Nat} (hX : RX M s9 lt len ct n d) (hu : u + 1 ≤ U) (k9 : ∀ (u2 : Nat) (M2 : Mm), RR M2 → u2 ≤ u + 1 → VV l D cs ad 9 κ u2 M2 1584 [(0, .ref b9), (1, .ref (ad 117)), (2, .ref (ad 135)), (3, .ref (ad 145)), (4, .int (nI i9))] []) : VV l D cs ad 9 κ u M 847 [(0, .ref b9), (1, .ref (ad 117)), (2, .ref (ad 135)), (3, .ref (ad 145)), (4, .int (nI i9))] [] := by
  obtain ⟨hz, hg, hpm, hks, hkh, hkt, hms, hml, htx⟩ := (show RX M s9 lt len ct n d from hX)
  obtain ⟨hzn, hzd, ⟨hn1, hn8⟩, ⟨hd1, hd4⟩, ⟨mk, hk⟩, hsy, hw9, hlb, hhb, hlz, hz0⟩ := (show gz (M.1 136) n d from hz)
  obtain ⟨hlt, hlt6, hs, hs6, hhi⟩ := (show KH M (fun j p => M.1 137 (55 * j + p)) s9 lt from hkh)
  obtain ⟨hlen, hl60, hct⟩ := (show KT M ct len from hkt)
  have hm := gk_gm hn8 hk
  obtain ⟨e0, hq0⟩ := gz_gq hz
  cases wh : (decide (len % 3 = 2 ∧ fi (fun k => !goN ct n k) len = len)) with
  | false =>
    refine r_aload_n C dL_law_847 rfl 1 rfl ?_
    refine r_aload_n C dL_law_848 rfl 3 rfl ?_
    refine r_wcall C hN (u1 := 1) (nA := 2) (by omega) [.ref (ad 117), .ref (ad 145)] (w_readX l D cs ad hfl M (M.1 136) n d hg hn8 hn1 ct len (fun k hk => ⟨(hct k hk).1, (hct k hk).2.2⟩) hlen hl60 wh) (tt_W ml_L_144 st_L_read in_L co_L_read) ⟨by decide, by decide, by decide⟩ ⟨Nat.le_of_ble_eq_true rfl, Nat.le_of_ble_eq_true rfl⟩ rfl rfl (Nat.le_of_ble_eq_true rfl) dL_law_849 (fun rw1 Mw qw => ?_)
    obtain ⟨rfl, hc⟩ := qw
    have e1 : Mw.1 = Mw.1 := rfl
    have e2 : Mw.2 145 0 = Mw.2 145 0 := rfl
    have eM : ∀ i, 135 ≤ i → Mw.1 i = M.1 i := eM_lk (lk_eq hc)
    have e136 : Mw.1 136 = M.1 136 := eM 136 (by decide)
    refine r_istore C [(5, .int (nI 1)), (0, .ref b9), (1, .ref (ad 117)), (2, .ref (ad 135)), (3, .ref (ad 145)), (4, .int (nI i9))] dL_law_852 (by decide) rfl ?_
    refine r_aload_n C dL_law_854 rfl 3 rfl ?_
    refine r_callV_i (nA := 0) C (by omega) [] (c_X8_readX l D cs ad Mw n (by rw [e136]; exact hz.1) hn8 len (by rw [eM 135 (by decide)]; exact hml) hl60 (by rw [eM 140 (by decide), rut_fi hn1 hn8 (fun k hk => ⟨htx k hk, (hct k hk).2⟩)]; exact fun w => (of_decide_eq_false wh) ⟨w.2, w.1⟩)) (tt_V ml_L_146 im_X8_read se_X8_read in_X8 co_X8_read) ⟨rfl, rfl⟩ ⟨rfl, by decide, by decide, by decide⟩ ⟨Nat.le_of_ble_eq_true rfl, Nat.le_of_ble_eq_true rfl⟩ (by decide) rfl rfl rfl rfl rfl (Nat.le_of_ble_eq_true rfl) dL_law_855 (fun ru1 Mu1 qu1 => ?_)
    obtain ⟨hr1, hm1⟩ := qu1
    have hS9 : Mu1.1 135 7 = nI 1 ∧ Mu1.2 145 0 = _ ∧ RR Mu1 := S_lk hX (lk_eq hc) e1 e2 (show SQ (mI Mw 135 7 (nI 1)) Mu1 by rw [hm1]; exact SQ.rf _)
    refine r_istore C [(6, .int ru1), (5, .int (nI 1)), (0, .ref b9), (1, .ref (ad 117)), (2, .ref (ad 135)), (3, .ref (ad 145)), (4, .int (nI i9))] dL_law_858 (by decide) rfl ?_
    refine r_aload_n C dL_law_860 rfl 4 rfl ?_
    refine r_pcallV_i (nA := 0) C (by omega) [] (c_X8_thrown l D cs ad Mu1) (tt_V ml_L_98 im_X8_thrown se_X8_thrown in_X8 co_X8_thrown) ⟨rfl, rfl⟩ ⟨rfl, by decide, by decide, by decide⟩ ⟨Nat.le_of_ble_eq_true rfl, Nat.le_of_ble_eq_true rfl⟩ (by decide) rfl rfl rfl rfl rfl (Nat.le_of_ble_eq_true rfl) dL_law_861 ?_
    refine r_topi (w := nI 1) hS9.1 ?_
    refine r_iload C dL_law_864 1 rfl ?_
    refine r_icmpN_eq C 871 dL_law_866 (by decide) (by omega) (by omega) (fun h866 => ?_) (fun h866 => ?_)
    ·
      refine r_iload C dL_law_871 1 rfl ?_
      refine r_if_ne C 888 dL_law_873 (by decide) (fun h873 => ?_) (fun h873 => ?_)
      ·
        refine r_goto C 1584 dL_law_888 (by decide) ?_
        refine r_lv (lv2 := [(0, .ref b9), (1, .ref (ad 117)), (2, .ref (ad 135)), (3, .ref (ad 145)), (4, .int (nI i9))]) [2, 3, 4, 5, 6] rfl ?_
        exact k9 _ _ hS9.2.2 (by omega)
      · exact absurd h873 (by decide)
    · exact absurd h866 (by decide)
  | true =>
    have wh2 := of_decide_eq_true wh
    obtain ⟨J, hJ⟩ : ∃ J, 3 * J = len + 1 := ⟨(len + 1) / 3, by omega⟩
    have hda := go_J hn8 hJ wh2.2
    have hab9 : ∀ j, j < J → (fun j => ct (3 * j) - 48) j < (fun j => ct (3 * j + 1) - 48) j ∧ (fun j => ct (3 * j + 1) - 48) j < n := fun j hj => by have := hda j (by omega); show ct (3 * j) - 48 < ct (3 * j + 1) - 48 ∧ ct (3 * j + 1) - 48 < n; omega
    obtain ⟨e3, hqr⟩ := gq_rd (J := J) hq0 hab9
    refine r_aload_n C dL_law_847 rfl 1 rfl ?_
    refine r_aload_n C dL_law_848 rfl 3 rfl ?_
    refine r_wcall C hN (u1 := 0) (nA := 2) (by omega) [.ref (ad 117), .ref (ad 145)] (w_read l D cs ad M (M.1 136) n d hg hn8 lt hlt hlt6 s9 hs hs6 hn1 ct len (fun k hk => ⟨(hct k hk).1, (hct k hk).2.2⟩) hlen hl60 J hJ hda wh (gz_gm (gq_gz hqr))) (tt_W ml_L_144 st_L_read in_L co_L_read) ⟨by decide, by decide, by decide⟩ ⟨Nat.le_of_ble_eq_true rfl, Nat.le_of_ble_eq_true rfl⟩ rfl rfl (Nat.le_of_ble_eq_true rfl) dL_law_849 (fun rw1 Mw qw => ?_)
    obtain ⟨rfl, v9, M9, hp9, hw9b⟩ := qw
    have e1 : Mw.1 = M9.1 := by rw [hw9b]; rfl
    have e2 : Mw.2 145 0 = v9.toInt64 := by rw [hw9b, mJ_eq, vL_e]
    obtain ⟨hvv, M1, M8, hsv, ho, hg3, hc⟩ := hp9
    have eM : ∀ i, 135 ≤ i → Mw.1 i = M.1 i := fun i hi => by rw [e1]; exact (show ∀ i, 135 ≤ i → M9.1 i = M.1 i from by rw [hc]; exact eM_mu hlt6 hsv ho (by decide)) i hi
    have e136 : Mw.1 136 = M.1 136 := eM 136 (by decide)
    refine r_istore C [(5, .int (nI 0)), (0, .ref b9), (1, .ref (ad 117)), (2, .ref (ad 135)), (3, .ref (ad 145)), (4, .int (nI i9))] dL_law_852 (by decide) rfl ?_
    refine r_aload_n C dL_law_854 rfl 3 rfl ?_
    refine r_callV_i (nA := 0) C (by omega) [] (c_X8_read l D cs ad Mw n (by rw [e136]; exact hz.1) hn8 s9 (by rw [eM 135 (by decide)]; exact hms) hs6 len (by rw [eM 135 (by decide)]; exact hml) hl60 J (by omega) (by rw [eM 140 (by decide), rut_fi hn1 hn8 (fun k hk => ⟨htx k hk, (hct k hk).2⟩)]; exact wh2.2) (fun j => ct (3 * j) - 48) (fun j => ct (3 * j + 1) - 48) (fun j hj => by have := hda j (by omega); rw [eM 140 (by decide), htx _ (by omega), pk_sub (by omega)]) (fun j hj => by have := hda j (by omega); rw [eM 140 (by decide), htx _ (by omega), pk_sub (by omega)]) hab9) (tt_V ml_L_146 im_X8_read se_X8_read in_X8 co_X8_read) ⟨rfl, rfl⟩ ⟨rfl, by decide, by decide, by decide⟩ ⟨Nat.le_of_ble_eq_true rfl, Nat.le_of_ble_eq_true rfl⟩ (by decide) rfl rfl rfl rfl rfl (Nat.le_of_ble_eq_true rfl) dL_law_855 (fun ru1 Mu1 qu1 => ?_)
    rw [e136] at qu1
    obtain ⟨hr1, hm1⟩ := qu1
    have hS9 : Mu1.1 135 7 = nI 0 ∧ Mu1.2 145 0 = _ ∧ RR Mu1 := S_rd hX hsv ho hg3 hc (gq_gz hqr) (rd_54 (fun j hj => ⟨Nat.lt_of_lt_of_le (Nat.lt_trans (hab9 j hj).1 (hab9 j hj).2) hn8, Nat.lt_of_lt_of_le (hab9 j hj).2 hn8⟩)) e1 e2 (by rw [hm1]; exact ((ms_0 Mw s9).A).L)
    have hv9 : Mu1.2 145 0 = ru1.toInt64 := by rw [hS9.2.1, hvv, hr1]
    refine r_istore C [(6, .int ru1), (5, .int (nI 0)), (0, .ref b9), (1, .ref (ad 117)), (2, .ref (ad 135)), (3, .ref (ad 145)), (4, .int (nI i9))] dL_law_858 (by decide) rfl ?_
    refine r_aload_n C dL_law_860 rfl 4 rfl ?_
    refine r_pcallV_i (nA := 0) C (by omega) [] (c_X8_thrown l D cs ad Mu1) (tt_V ml_L_98 im_X8_thrown se_X8_thrown in_X8 co_X8_thrown) ⟨rfl, rfl⟩ ⟨rfl, by decide, by decide, by decide⟩ ⟨Nat.le_of_ble_eq_true rfl, Nat.le_of_ble_eq_true rfl⟩ (by decide) rfl rfl rfl rfl rfl (Nat.le_of_ble_eq_true rfl) dL_law_861 ?_
    refine r_topi (w := nI 0) hS9.1 ?_
    refine r_iload C dL_law_864 1 rfl ?_
    refine r_icmpN_eq C 871 dL_law_866 (by decide) (by omega) (by omega) (fun h866 => ?_) (fun h866 => ?_)
    ·
      refine r_iload C dL_law_871 1 rfl ?_
      refine r_if_ne C 888 dL_law_873 (by decide) (fun h873 => ?_) (fun h873 => ?_)
      · exact absurd rfl h873
      ·
        refine r_aload_n C dL_law_876 rfl 5 rfl ?_
        refine r_iconst C (nI 0) dL_law_877 (by decide) ?_
        refine r_lald C (id := 145) (n := 1) (a := 0) (by decide) rfl (by decide) (by decide) dL_law_878 ?_
        refine r_topl (w := ru1.toInt64) hv9 ?_
        refine r_iload C dL_law_879 0 rfl ?_
        refine r_i2l C dL_law_881 ?_
        refine r_lcmp C dL_law_882 ?_
        refine r_if_eq C 888 dL_law_883 (by decide) (fun h883 => ?_) (fun h883 => ?_)
        ·
          rw [lgc_eq] at h883
          refine r_goto C 1584 dL_law_888 (by decide) ?_
          refine r_lv (lv2 := [(0, .ref b9), (1, .ref (ad 117)), (2, .ref (ad 135)), (3, .ref (ad 145)), (4, .int (nI i9))]) [2, 3, 4, 5, 6] rfl ?_
          exact k9 _ _ hS9.2.2 (by omega)
        · exact absurd (lgcT _) h883
    · exact absurd h866 (by decide)
set_option maxRecDepth 100000 in
set_option maxHeartbeats 4000000 in
theorem LC_take {l : Launch} {D : va_G} {cs : Nat → ClassId} {ad : Nat → Nat} {κ : Kx} {u U : Nat} {M : Mm} (C : CX D cs ad cL_law 9 RL 2048 84000 U κ) (hN : CN ad κ) (hfl : l.stackTraces = false) {b9 L i9 : Nat} {xs : Nat → Int32} (hSc : CSX ad b9 L xs κ) (hL : L ≤ 2048) (hj : i9 + 4 ≤ L) {s9 lt len n d : Nat} {ct : Nat → Nat} (hX : RX M s9 lt len ct n d) (hu : u + 1 ≤ U) (k9 : ∀ (u2 : Nat) (M2 : Mm), RR M2 → u2 ≤ u + 1 → VV l D cs ad 9 κ u2 M2 1584 [(0, .ref b9), (1, .ref (ad 117)), (2, .ref (ad 135)), (3, .ref (ad 145)), (4, .int (nI i9))] []) : VV l D cs ad 9 κ u M 891 [(0, .ref b9), (1, .ref (ad 117)), (2, .ref (ad 135)), (3, .ref (ad 145)), (4, .int (nI i9))] [] := by
  obtain ⟨hz, hg, hpm, hks, hkh, hkt, hms, hml, htx⟩ := (show RX M s9 lt len ct n d from hX)
  obtain ⟨hzn, hzd, ⟨hn1, hn8⟩, ⟨hd1, hd4⟩, ⟨mk, hk⟩, hsy, hw9, hlb, hhb, hlz, hz0⟩ := (show gz (M.1 136) n d from hz)
  obtain ⟨hlt, hlt6, hs, hs6, hhi⟩ := (show KH M (fun j p => M.1 137 (55 * j + p)) s9 lt from hkh)
  obtain ⟨hlen, hl60, hct⟩ := (show KT M ct len from hkt)
  have hm := gk_gm hn8 hk
  obtain ⟨e0, hq0⟩ := gz_gq hz
  cases w1 : (wit (xs (i9 + 1)) (nI 0) (nI 1)) with
  | false =>
    refine r_aload_n C dL_law_891 rfl 1 rfl ?_
    refine r_aload_n C dL_law_892 rfl 0 rfl ?_
    refine r_iload C dL_law_893 4 rfl ?_
    refine r_iconst C (nI 1) dL_law_895 (by decide) ?_
    refine r_iadd C dL_law_896 ?_
    refine r_topi (nI_add i9 1) ?_
    refine r_sld C hSc (by omega) hL dL_law_897 ?_
    refine r_aload_n C dL_law_898 rfl 3 rfl ?_
    refine r_wcall C hN (u1 := 1) (nA := 3) (by omega) [.ref (ad 117), .int (xs (i9 + 1)), .ref (ad 145)] (w_takeX l D cs ad hfl M (xs (i9 + 1)) w1) (tt_W ml_L_147 st_L_take in_L co_L_take) ⟨by decide, by decide, by decide⟩ ⟨Nat.le_of_ble_eq_true rfl, Nat.le_of_ble_eq_true rfl⟩ rfl rfl (Nat.le_of_ble_eq_true rfl) dL_law_899 (fun rw1 Mw qw => ?_)
    obtain ⟨rfl, hc⟩ := qw
    have e1 : Mw.1 = Mw.1 := rfl
    have e2 : Mw.2 145 0 = Mw.2 145 0 := rfl
    have eM : ∀ i, 135 ≤ i → Mw.1 i = M.1 i := eM_lk (lk_eq hc)
    have e136 : Mw.1 136 = M.1 136 := eM 136 (by decide)
    refine r_istore C [(5, .int (nI 1)), (0, .ref b9), (1, .ref (ad 117)), (2, .ref (ad 135)), (3, .ref (ad 145)), (4, .int (nI i9))] dL_law_902 (by decide) rfl ?_
    refine r_aload_n C dL_law_904 rfl 3 rfl ?_
    refine r_aload_n C dL_law_905 rfl 1 rfl ?_
    refine r_iload C dL_law_906 5 rfl ?_
    refine r_iconst C (nI 1) dL_law_908 (by decide) ?_
    refine r_iadd C dL_law_909 ?_
    refine r_topi (nI_add i9 1) ?_
    refine r_sld C hSc (by omega) hL dL_law_910 ?_
    refine r_callV_i (nA := 1) C (by omega) [.int (xs (i9 + 1))] (c_X8_takeX l D cs ad Mw (xs (i9 + 1)) w1) (tt_V ml_L_149 im_X8_take se_X8_take in_X8 co_X8_take) ⟨rfl, rfl⟩ ⟨rfl, by decide, by decide, by decide⟩ ⟨Nat.le_of_ble_eq_true rfl, Nat.le_of_ble_eq_true rfl⟩ (by decide) rfl rfl rfl rfl rfl (Nat.le_of_ble_eq_true rfl) dL_law_911 (fun ru1 Mu1 qu1 => ?_)
    obtain ⟨hr1, hm1⟩ := qu1
    have hS9 : Mu1.1 135 7 = nI 1 ∧ Mu1.2 145 0 = _ ∧ RR Mu1 := S_lk hX (lk_eq hc) e1 e2 (show SQ (mI Mw 135 7 (nI 1)) Mu1 by rw [hm1]; exact SQ.rf _)
    refine r_istore C [(6, .int ru1), (5, .int (nI 1)), (0, .ref b9), (1, .ref (ad 117)), (2, .ref (ad 135)), (3, .ref (ad 145)), (4, .int (nI i9))] dL_law_914 (by decide) rfl ?_
    refine r_aload_n C dL_law_916 rfl 4 rfl ?_
    refine r_pcallV_i (nA := 0) C (by omega) [] (c_X8_thrown l D cs ad Mu1) (tt_V ml_L_98 im_X8_thrown se_X8_thrown in_X8 co_X8_thrown) ⟨rfl, rfl⟩ ⟨rfl, by decide, by decide, by decide⟩ ⟨Nat.le_of_ble_eq_true rfl, Nat.le_of_ble_eq_true rfl⟩ (by decide) rfl rfl rfl rfl rfl (Nat.le_of_ble_eq_true rfl) dL_law_917 ?_
    refine r_topi (w := nI 1) hS9.1 ?_
    refine r_iload C dL_law_920 1 rfl ?_
    refine r_icmpN_eq C 927 dL_law_922 (by decide) (by omega) (by omega) (fun h922 => ?_) (fun h922 => ?_)
    ·
      refine r_iload C dL_law_927 1 rfl ?_
      refine r_if_ne C 944 dL_law_929 (by decide) (fun h929 => ?_) (fun h929 => ?_)
      ·
        refine r_goto C 1584 dL_law_944 (by decide) ?_
        refine r_lv (lv2 := [(0, .ref b9), (1, .ref (ad 117)), (2, .ref (ad 135)), (3, .ref (ad 145)), (4, .int (nI i9))]) [2, 3, 4, 5, 6] rfl ?_
        exact k9 _ _ hS9.2.2 (by omega)
      · exact absurd h929 (by decide)
    · exact absurd h922 (by decide)
  | true =>
    obtain ⟨q, -, hq, p1⟩ := wit_rg (by decide) (by decide) w1
    refine r_aload_n C dL_law_891 rfl 1 rfl ?_
    refine r_aload_n C dL_law_892 rfl 0 rfl ?_
    refine r_iload C dL_law_893 4 rfl ?_
    refine r_iconst C (nI 1) dL_law_895 (by decide) ?_
    refine r_iadd C dL_law_896 ?_
    refine r_topi (nI_add i9 1) ?_
    refine r_sld C hSc (by omega) hL dL_law_897 ?_
    refine r_topi (w := nI q) p1 ?_
    refine r_aload_n C dL_law_898 rfl 3 rfl ?_
    refine r_wcall C hN (u1 := 0) (nA := 3) (by omega) [.ref (ad 117), .int (nI q), .ref (ad 145)] (w_take l D cs ad M (M.1 136) n d hg hn8 q hq) (tt_W ml_L_147 st_L_take in_L co_L_take) ⟨by decide, by decide, by decide⟩ ⟨Nat.le_of_ble_eq_true rfl, Nat.le_of_ble_eq_true rfl⟩ rfl rfl (Nat.le_of_ble_eq_true rfl) dL_law_899 (fun rw1 Mw qw => ?_)
    obtain ⟨rfl, v9, M9, hp9, hw9b⟩ := qw
    have e1 : Mw.1 = M9.1 := by rw [hw9b]; rfl
    have e2 : Mw.2 145 0 = v9.toInt64 := by rw [hw9b, mJ_eq, vL_e]
    obtain ⟨hvv, M1, ho, hg3, hc⟩ := hp9
    have eM : ∀ i, 135 ≤ i → Mw.1 i = M.1 i := fun i hi => by rw [e1]; exact (show ∀ i, 135 ≤ i → M9.1 i = M.1 i from by rw [hc]; exact eM_tk hq ho) i hi
    have e136 : Mw.1 136 = M.1 136 := eM 136 (by decide)
    refine r_istore C [(5, .int (nI 0)), (0, .ref b9), (1, .ref (ad 117)), (2, .ref (ad 135)), (3, .ref (ad 145)), (4, .int (nI i9))] dL_law_902 (by decide) rfl ?_
    refine r_aload_n C dL_law_904 rfl 3 rfl ?_
    refine r_aload_n C dL_law_905 rfl 1 rfl ?_
    refine r_iload C dL_law_906 5 rfl ?_
    refine r_iconst C (nI 1) dL_law_908 (by decide) ?_
    refine r_iadd C dL_law_909 ?_
    refine r_topi (nI_add i9 1) ?_
    refine r_sld C hSc (by omega) hL dL_law_910 ?_
    refine r_topi (w := nI q) p1 ?_
    refine r_callV_i (nA := 1) C (by omega) [.int (nI q)] (c_X8_take l D cs ad Mw n (by rw [e136]; exact hz.1) hn8 q hq) (tt_V ml_L_149 im_X8_take se_X8_take in_X8 co_X8_take) ⟨rfl, rfl⟩ ⟨rfl, by decide, by decide, by decide⟩ ⟨Nat.le_of_ble_eq_true rfl, Nat.le_of_ble_eq_true rfl⟩ (by decide) rfl rfl rfl rfl rfl (Nat.le_of_ble_eq_true rfl) dL_law_911 (fun ru1 Mu1 qu1 => ?_)
    obtain ⟨hr1, hm1⟩ := qu1
    have hS9 : Mu1.1 135 7 = nI 0 ∧ Mu1.2 145 0 = _ ∧ RR Mu1 := S_tk hX hq ho hg3 hc e1 e2 hm1
    have hv9 : Mu1.2 145 0 = ru1.toInt64 := by rw [hS9.2.1, hvv, hr1]
    refine r_istore C [(6, .int ru1), (5, .int (nI 0)), (0, .ref b9), (1, .ref (ad 117)), (2, .ref (ad 135)), (3, .ref (ad 145)), (4, .int (nI i9))] dL_law_914 (by decide) rfl ?_
    refine r_aload_n C dL_law_916 rfl 4 rfl ?_
    refine r_pcallV_i (nA := 0) C (by omega) [] (c_X8_thrown l D cs ad Mu1) (tt_V ml_L_98 im_X8_thrown se_X8_thrown in_X8 co_X8_thrown) ⟨rfl, rfl⟩ ⟨rfl, by decide, by decide, by decide⟩ ⟨Nat.le_of_ble_eq_true rfl, Nat.le_of_ble_eq_true rfl⟩ (by decide) rfl rfl rfl rfl rfl (Nat.le_of_ble_eq_true rfl) dL_law_917 ?_
    refine r_topi (w := nI 0) hS9.1 ?_
    refine r_iload C dL_law_920 1 rfl ?_
    refine r_icmpN_eq C 927 dL_law_922 (by decide) (by omega) (by omega) (fun h922 => ?_) (fun h922 => ?_)
    ·
      refine r_iload C dL_law_927 1 rfl ?_
      refine r_if_ne C 944 dL_law_929 (by decide) (fun h929 => ?_) (fun h929 => ?_)
      · exact absurd rfl h929
      ·
        refine r_aload_n C dL_law_932 rfl 5 rfl ?_
        refine r_iconst C (nI 0) dL_law_933 (by decide) ?_
        refine r_lald C (id := 145) (n := 1) (a := 0) (by decide) rfl (by decide) (by decide) dL_law_934 ?_
        refine r_topl (w := ru1.toInt64) hv9 ?_
        refine r_iload C dL_law_935 0 rfl ?_
        refine r_i2l C dL_law_937 ?_
        refine r_lcmp C dL_law_938 ?_
        refine r_if_eq C 944 dL_law_939 (by decide) (fun h939 => ?_) (fun h939 => ?_)
        ·
          rw [lgc_eq] at h939
          refine r_goto C 1584 dL_law_944 (by decide) ?_
          refine r_lv (lv2 := [(0, .ref b9), (1, .ref (ad 117)), (2, .ref (ad 135)), (3, .ref (ad 145)), (4, .int (nI i9))]) [2, 3, 4, 5, 6] rfl ?_
          exact k9 _ _ hS9.2.2 (by omega)
        · exact absurd (lgcT _) h939
    · exact absurd h922 (by decide)
