/-! ===== the law's cases, 2 (written by wip/whole/gen/lawc.py) ===== -/
set_option maxRecDepth 100000 in
set_option maxHeartbeats 4000000 in
theorem LC_restore {l : Launch} {D : va_G} {cs : Nat → ClassId} {ad : Nat → Nat} {κ : Kx} {u U : Nat} {M : Mm} (C : CX D cs ad cL_law 9 RL 2048 84000 U κ) (hN : CN ad κ) (hfl : l.stackTraces = false) {b9 L i9 : Nat} {xs : Nat → Int32} (hSc : CSX ad b9 L xs κ) (hL : L ≤ 2048) (hj : i9 + 4 ≤ L) {s9 lt len n d : Nat} {ct : Nat → Nat} (hX : RX M s9 lt len ct n d) (hu : u + 1 ≤ U) (k9 : ∀ (u2 : Nat) (M2 : Mm), RR M2 → u2 ≤ u + 1 → VV l D cs ad 9 κ u2 M2 1584 [(0, .ref b9), (1, .ref (ad 117)), (2, .ref (ad 135)), (3, .ref (ad 145)), (4, .int (nI i9))] []) : VV l D cs ad 9 κ u M 947 [(0, .ref b9), (1, .ref (ad 117)), (2, .ref (ad 135)), (3, .ref (ad 145)), (4, .int (nI i9))] [] := by
  obtain ⟨hz, hg, hpm, hks, hkh, hkt, hms, hml, htx⟩ := (show RX M s9 lt len ct n d from hX)
  obtain ⟨hzn, hzd, ⟨hn1, hn8⟩, ⟨hd1, hd4⟩, ⟨mk, hk⟩, hsy, hw9, hlb, hhb, hlz, hz0⟩ := (show gz (M.1 136) n d from hz)
  obtain ⟨hlt, hlt6, hs, hs6, hhi⟩ := (show KH M (fun j p => M.1 137 (55 * j + p)) s9 lt from hkh)
  obtain ⟨hlen, hl60, hct⟩ := (show KT M ct len from hkt)
  have hm := gk_gm hn8 hk
  obtain ⟨e0, hq0⟩ := gz_gq hz
  cases w1 : (wit (xs (i9 + 1)) (nI 0) (nI 1)) with
  | false =>
    refine r_aload_n C dL_law_947 rfl 1 rfl ?_
    refine r_aload_n C dL_law_948 rfl 0 rfl ?_
    refine r_iload C dL_law_949 4 rfl ?_
    refine r_iconst C (nI 1) dL_law_951 (by decide) ?_
    refine r_iadd C dL_law_952 ?_
    refine r_topi (nI_add i9 1) ?_
    refine r_sld C hSc (by omega) hL dL_law_953 ?_
    refine r_aload_n C dL_law_954 rfl 3 rfl ?_
    refine r_wcall C hN (u1 := 1) (nA := 3) (by omega) [.ref (ad 117), .int (xs (i9 + 1)), .ref (ad 145)] (w_restoreX l D cs ad hfl M (xs (i9 + 1)) w1) (tt_W ml_L_150 st_L_restore in_L co_L_restore) ⟨by decide, by decide, by decide⟩ ⟨Nat.le_of_ble_eq_true rfl, Nat.le_of_ble_eq_true rfl⟩ rfl rfl (Nat.le_of_ble_eq_true rfl) dL_law_955 (fun rw1 Mw qw => ?_)
    obtain ⟨rfl, hc⟩ := qw
    have e1 : Mw.1 = Mw.1 := rfl
    have e2 : Mw.2 145 0 = Mw.2 145 0 := rfl
    have eM : ∀ i, 135 ≤ i → Mw.1 i = M.1 i := eM_lk (lk_eq hc)
    have e136 : Mw.1 136 = M.1 136 := eM 136 (by decide)
    refine r_istore C [(5, .int (nI 1)), (0, .ref b9), (1, .ref (ad 117)), (2, .ref (ad 135)), (3, .ref (ad 145)), (4, .int (nI i9))] dL_law_958 (by decide) rfl ?_
    refine r_aload_n C dL_law_960 rfl 3 rfl ?_
    refine r_aload_n C dL_law_961 rfl 1 rfl ?_
    refine r_iload C dL_law_962 5 rfl ?_
    refine r_iconst C (nI 1) dL_law_964 (by decide) ?_
    refine r_iadd C dL_law_965 ?_
    refine r_topi (nI_add i9 1) ?_
    refine r_sld C hSc (by omega) hL dL_law_966 ?_
    refine r_callV_i (nA := 1) C (by omega) [.int (xs (i9 + 1))] (c_X8_restoreX l D cs ad Mw (xs (i9 + 1)) w1) (tt_V ml_L_152 im_X8_restore se_X8_restore in_X8 co_X8_restore) ⟨rfl, rfl⟩ ⟨rfl, by decide, by decide, by decide⟩ ⟨Nat.le_of_ble_eq_true rfl, Nat.le_of_ble_eq_true rfl⟩ (by decide) rfl rfl rfl rfl rfl (Nat.le_of_ble_eq_true rfl) dL_law_967 (fun ru1 Mu1 qu1 => ?_)
    obtain ⟨hr1, hm1⟩ := qu1
    have hS9 : Mu1.1 135 7 = nI 1 ∧ Mu1.2 145 0 = _ ∧ RR Mu1 := S_lk hX (lk_eq hc) e1 e2 (show SQ (mI Mw 135 7 (nI 1)) Mu1 by rw [hm1]; exact SQ.rf _)
    refine r_istore C [(6, .int ru1), (5, .int (nI 1)), (0, .ref b9), (1, .ref (ad 117)), (2, .ref (ad 135)), (3, .ref (ad 145)), (4, .int (nI i9))] dL_law_970 (by decide) rfl ?_
    refine r_aload_n C dL_law_972 rfl 4 rfl ?_
    refine r_pcallV_i (nA := 0) C (by omega) [] (c_X8_thrown l D cs ad Mu1) (tt_V ml_L_98 im_X8_thrown se_X8_thrown in_X8 co_X8_thrown) ⟨rfl, rfl⟩ ⟨rfl, by decide, by decide, by decide⟩ ⟨Nat.le_of_ble_eq_true rfl, Nat.le_of_ble_eq_true rfl⟩ (by decide) rfl rfl rfl rfl rfl (Nat.le_of_ble_eq_true rfl) dL_law_973 ?_
    refine r_topi (w := nI 1) hS9.1 ?_
    refine r_iload C dL_law_976 1 rfl ?_
    refine r_icmpN_eq C 983 dL_law_978 (by decide) (by omega) (by omega) (fun h978 => ?_) (fun h978 => ?_)
    ·
      refine r_iload C dL_law_983 1 rfl ?_
      refine r_if_ne C 1000 dL_law_985 (by decide) (fun h985 => ?_) (fun h985 => ?_)
      ·
        refine r_goto C 1584 dL_law_1000 (by decide) ?_
        refine r_lv (lv2 := [(0, .ref b9), (1, .ref (ad 117)), (2, .ref (ad 135)), (3, .ref (ad 145)), (4, .int (nI i9))]) [2, 3, 4, 5, 6] rfl ?_
        exact k9 _ _ hS9.2.2 (by omega)
      · exact absurd h985 (by decide)
    · exact absurd h978 (by decide)
  | true =>
    obtain ⟨q, -, hq, p1⟩ := wit_rg (by decide) (by decide) w1
    rcases (hks q (by omega)).2 with htk | ⟨htk, n2, d2, hyz, hy⟩
    ·
      refine r_aload_n C dL_law_947 rfl 1 rfl ?_
      refine r_aload_n C dL_law_948 rfl 0 rfl ?_
      refine r_iload C dL_law_949 4 rfl ?_
      refine r_iconst C (nI 1) dL_law_951 (by decide) ?_
      refine r_iadd C dL_law_952 ?_
      refine r_topi (nI_add i9 1) ?_
      refine r_sld C hSc (by omega) hL dL_law_953 ?_
      refine r_topi (w := nI q) p1 ?_
      refine r_aload_n C dL_law_954 rfl 3 rfl ?_
      refine r_wcall C hN (u1 := 1) (nA := 3) (by omega) [.ref (ad 117), .int (nI q), .ref (ad 145)] (w_restoreF l D cs ad hfl M q hq ((hks q (by omega)).1.trans htk)) (tt_W ml_L_150 st_L_restore in_L co_L_restore) ⟨by decide, by decide, by decide⟩ ⟨Nat.le_of_ble_eq_true rfl, Nat.le_of_ble_eq_true rfl⟩ rfl rfl (Nat.le_of_ble_eq_true rfl) dL_law_955 (fun rw1 Mw qw => ?_)
      obtain ⟨rfl, hc⟩ := qw
      have e1 : Mw.1 = Mw.1 := rfl
      have e2 : Mw.2 145 0 = Mw.2 145 0 := rfl
      have eM : ∀ i, 135 ≤ i → Mw.1 i = M.1 i := eM_lk (lk_eq hc)
      have e136 : Mw.1 136 = M.1 136 := eM 136 (by decide)
      refine r_istore C [(5, .int (nI 2)), (0, .ref b9), (1, .ref (ad 117)), (2, .ref (ad 135)), (3, .ref (ad 145)), (4, .int (nI i9))] dL_law_958 (by decide) rfl ?_
      refine r_aload_n C dL_law_960 rfl 3 rfl ?_
      refine r_aload_n C dL_law_961 rfl 1 rfl ?_
      refine r_iload C dL_law_962 5 rfl ?_
      refine r_iconst C (nI 1) dL_law_964 (by decide) ?_
      refine r_iadd C dL_law_965 ?_
      refine r_topi (nI_add i9 1) ?_
      refine r_sld C hSc (by omega) hL dL_law_966 ?_
      refine r_topi (w := nI q) p1 ?_
      refine r_callV_i (nA := 1) C (by omega) [.int (nI q)] (c_X8_restoreF l D cs ad Mw q hq (by rw [eM 139 (by decide)]; exact htk)) (tt_V ml_L_152 im_X8_restore se_X8_restore in_X8 co_X8_restore) ⟨rfl, rfl⟩ ⟨rfl, by decide, by decide, by decide⟩ ⟨Nat.le_of_ble_eq_true rfl, Nat.le_of_ble_eq_true rfl⟩ (by decide) rfl rfl rfl rfl rfl (Nat.le_of_ble_eq_true rfl) dL_law_967 (fun ru1 Mu1 qu1 => ?_)
      obtain ⟨hr1, hm1⟩ := qu1
      have hS9 : Mu1.1 135 7 = nI 2 ∧ Mu1.2 145 0 = _ ∧ RR Mu1 := S_lk hX (lk_eq hc) e1 e2 (show SQ (mI Mw 135 7 (nI 2)) Mu1 by rw [hm1]; exact SQ.rf _)
      refine r_istore C [(6, .int ru1), (5, .int (nI 2)), (0, .ref b9), (1, .ref (ad 117)), (2, .ref (ad 135)), (3, .ref (ad 145)), (4, .int (nI i9))] dL_law_970 (by decide) rfl ?_
      refine r_aload_n C dL_law_972 rfl 4 rfl ?_
      refine r_pcallV_i (nA := 0) C (by omega) [] (c_X8_thrown l D cs ad Mu1) (tt_V ml_L_98 im_X8_thrown se_X8_thrown in_X8 co_X8_thrown) ⟨rfl, rfl⟩ ⟨rfl, by decide, by decide, by decide⟩ ⟨Nat.le_of_ble_eq_true rfl, Nat.le_of_ble_eq_true rfl⟩ (by decide) rfl rfl rfl rfl rfl (Nat.le_of_ble_eq_true rfl) dL_law_973 ?_
      refine r_topi (w := nI 2) hS9.1 ?_
      refine r_iload C dL_law_976 1 rfl ?_
      refine r_icmpN_eq C 983 dL_law_978 (by decide) (by omega) (by omega) (fun h978 => ?_) (fun h978 => ?_)
      ·
        refine r_iload C dL_law_983 1 rfl ?_
        refine r_if_ne C 1000 dL_law_985 (by decide) (fun h985 => ?_) (fun h985 => ?_)
        ·
          refine r_goto C 1584 dL_law_1000 (by decide) ?_
          refine r_lv (lv2 := [(0, .ref b9), (1, .ref (ad 117)), (2, .ref (ad 135)), (3, .ref (ad 145)), (4, .int (nI i9))]) [2, 3, 4, 5, 6] rfl ?_
          exact k9 _ _ hS9.2.2 (by omega)
        · exact absurd h985 (by decide)
      · exact absurd h978 (by decide)
    ·
      refine r_aload_n C dL_law_947 rfl 1 rfl ?_
      refine r_aload_n C dL_law_948 rfl 0 rfl ?_
      refine r_iload C dL_law_949 4 rfl ?_
      refine r_iconst C (nI 1) dL_law_951 (by decide) ?_
      refine r_iadd C dL_law_952 ?_
      refine r_topi (nI_add i9 1) ?_
      refine r_sld C hSc (by omega) hL dL_law_953 ?_
      refine r_topi (w := nI q) p1 ?_
      refine r_aload_n C dL_law_954 rfl 3 rfl ?_
      refine r_wcall C hN (u1 := 0) (nA := 3) (by omega) [.ref (ad 117), .int (nI q), .ref (ad 145)] (w_restore l D cs ad M (M.1 136) n d hg hn8 lt hlt hlt6 s9 hs hs6 q hq ((hks q (by omega)).1.trans htk) (fun p => M.1 138 (55 * q + p)) n2 d2 hy hyz.2.2.1.2) (tt_W ml_L_150 st_L_restore in_L co_L_restore) ⟨by decide, by decide, by decide⟩ ⟨Nat.le_of_ble_eq_true rfl, Nat.le_of_ble_eq_true rfl⟩ rfl rfl (Nat.le_of_ble_eq_true rfl) dL_law_955 (fun rw1 Mw qw => ?_)
      obtain ⟨rfl, v9, M9, hp9, hw9b⟩ := qw
      have e1 : Mw.1 = M9.1 := by rw [hw9b]; rfl
      have e2 : Mw.2 145 0 = v9.toInt64 := by rw [hw9b, mJ_eq, vL_e]
      obtain ⟨hvv, hc⟩ := hp9
      have eM : ∀ i, 135 ≤ i → Mw.1 i = M.1 i := fun i hi => by rw [e1]; exact (show ∀ i, 135 ≤ i → M9.1 i = M.1 i from eM_ch hlt6 hc) i hi
      have e136 : Mw.1 136 = M.1 136 := eM 136 (by decide)
      refine r_istore C [(5, .int (nI 0)), (0, .ref b9), (1, .ref (ad 117)), (2, .ref (ad 135)), (3, .ref (ad 145)), (4, .int (nI i9))] dL_law_958 (by decide) rfl ?_
      refine r_aload_n C dL_law_960 rfl 3 rfl ?_
      refine r_aload_n C dL_law_961 rfl 1 rfl ?_
      refine r_iload C dL_law_962 5 rfl ?_
      refine r_iconst C (nI 1) dL_law_964 (by decide) ?_
      refine r_iadd C dL_law_965 ?_
      refine r_topi (nI_add i9 1) ?_
      refine r_sld C hSc (by omega) hL dL_law_966 ?_
      refine r_topi (w := nI q) p1 ?_
      refine r_callV_i (nA := 1) C (by omega) [.int (nI q)] (c_X8_restore l D cs ad Mw s9 (by rw [eM 135 (by decide)]; exact hms) hs6 q n2 hq (by rw [eM 139 (by decide)]; exact htk) (by rw [eM 138 (by decide)]; exact hyz.1)) (tt_V ml_L_152 im_X8_restore se_X8_restore in_X8 co_X8_restore) ⟨rfl, rfl⟩ ⟨rfl, by decide, by decide, by decide⟩ ⟨Nat.le_of_ble_eq_true rfl, Nat.le_of_ble_eq_true rfl⟩ (by decide) rfl rfl rfl rfl rfl (Nat.le_of_ble_eq_true rfl) dL_law_967 (fun ru1 Mu1 qu1 => ?_)
      rw [e136, eM 138 (by decide)] at qu1
      obtain ⟨hr1, hm1⟩ := qu1
      have hS9 : Mu1.1 135 7 = nI 0 ∧ Mu1.2 145 0 = _ ∧ RR Mu1 := S_ch hX hc (gz_cg (y := ovR (M.1 136) (M.1 138) (55 * q) 54) hyz (fun j hj => if_pos hj)) (fun j hj => if_pos hj) (if_neg (by decide)) e1 e2 (by rw [hm1]; exact (ms_0 Mw s9).A) (fun _ _ => rfl)
      have hv9 : Mu1.2 145 0 = ru1.toInt64 := by rw [hS9.2.1, hvv, hr1]
      refine r_istore C [(6, .int ru1), (5, .int (nI 0)), (0, .ref b9), (1, .ref (ad 117)), (2, .ref (ad 135)), (3, .ref (ad 145)), (4, .int (nI i9))] dL_law_970 (by decide) rfl ?_
      refine r_aload_n C dL_law_972 rfl 4 rfl ?_
      refine r_pcallV_i (nA := 0) C (by omega) [] (c_X8_thrown l D cs ad Mu1) (tt_V ml_L_98 im_X8_thrown se_X8_thrown in_X8 co_X8_thrown) ⟨rfl, rfl⟩ ⟨rfl, by decide, by decide, by decide⟩ ⟨Nat.le_of_ble_eq_true rfl, Nat.le_of_ble_eq_true rfl⟩ (by decide) rfl rfl rfl rfl rfl (Nat.le_of_ble_eq_true rfl) dL_law_973 ?_
      refine r_topi (w := nI 0) hS9.1 ?_
      refine r_iload C dL_law_976 1 rfl ?_
      refine r_icmpN_eq C 983 dL_law_978 (by decide) (by omega) (by omega) (fun h978 => ?_) (fun h978 => ?_)
      ·
        refine r_iload C dL_law_983 1 rfl ?_
        refine r_if_ne C 1000 dL_law_985 (by decide) (fun h985 => ?_) (fun h985 => ?_)
        · exact absurd rfl h985
        ·
          refine r_aload_n C dL_law_988 rfl 5 rfl ?_
          refine r_iconst C (nI 0) dL_law_989 (by decide) ?_
          refine r_lald C (id := 145) (n := 1) (a := 0) (by decide) rfl (by decide) (by decide) dL_law_990 ?_
          refine r_topl (w := ru1.toInt64) hv9 ?_
          refine r_iload C dL_law_991 0 rfl ?_
          refine r_i2l C dL_law_993 ?_
          refine r_lcmp C dL_law_994 ?_
          refine r_if_eq C 1000 dL_law_995 (by decide) (fun h995 => ?_) (fun h995 => ?_)
          ·
            rw [lgc_eq] at h995
            refine r_goto C 1584 dL_law_1000 (by decide) ?_
            refine r_lv (lv2 := [(0, .ref b9), (1, .ref (ad 117)), (2, .ref (ad 135)), (3, .ref (ad 145)), (4, .int (nI i9))]) [2, 3, 4, 5, 6] rfl ?_
            exact k9 _ _ hS9.2.2 (by omega)
          · exact absurd (lgcT _) h995
      · exact absurd h978 (by decide)
set_option maxRecDepth 100000 in
set_option maxHeartbeats 4000000 in
theorem LC_multiply {l : Launch} {D : va_G} {cs : Nat → ClassId} {ad : Nat → Nat} {κ : Kx} {u U : Nat} {M : Mm} (C : CX D cs ad cL_law 9 RL 2048 84000 U κ) (hN : CN ad κ) (hfl : l.stackTraces = false) {b9 L i9 : Nat} {xs : Nat → Int32} (hSc : CSX ad b9 L xs κ) (hL : L ≤ 2048) (hj : i9 + 4 ≤ L) {s9 lt len n d : Nat} {ct : Nat → Nat} (hX : RX M s9 lt len ct n d) (hu : u + 1 ≤ U) (k9 : ∀ (u2 : Nat) (M2 : Mm), RR M2 → u2 ≤ u + 1 → VV l D cs ad 9 κ u2 M2 1584 [(0, .ref b9), (1, .ref (ad 117)), (2, .ref (ad 135)), (3, .ref (ad 145)), (4, .int (nI i9))] []) : VV l D cs ad 9 κ u M 461 [(0, .ref b9), (1, .ref (ad 117)), (2, .ref (ad 135)), (3, .ref (ad 145)), (4, .int (nI i9))] [] := by
  obtain ⟨hz, hg, hpm, hks, hkh, hkt, hms, hml, htx⟩ := (show RX M s9 lt len ct n d from hX)
  obtain ⟨hzn, hzd, ⟨hn1, hn8⟩, ⟨hd1, hd4⟩, ⟨mk, hk⟩, hsy, hw9, hlb, hhb, hlz, hz0⟩ := (show gz (M.1 136) n d from hz)
  obtain ⟨hlt, hlt6, hs, hs6, hhi⟩ := (show KH M (fun j p => M.1 137 (55 * j + p)) s9 lt from hkh)
  obtain ⟨hlen, hl60, hct⟩ := (show KT M ct len from hkt)
  have hm := gk_gm hn8 hk
  obtain ⟨e0, hq0⟩ := gz_gq hz
  cases w1 : (wit (xs (i9 + 1)) (nI 0) (nI 1)) with
  | false =>
    refine r_aload_n C dL_law_461 rfl 1 rfl ?_
    refine r_aload_n C dL_law_462 rfl 0 rfl ?_
    refine r_iload C dL_law_463 4 rfl ?_
    refine r_iconst C (nI 1) dL_law_465 (by decide) ?_
    refine r_iadd C dL_law_466 ?_
    refine r_topi (nI_add i9 1) ?_
    refine r_sld C hSc (by omega) hL dL_law_467 ?_
    refine r_aload_n C dL_law_468 rfl 3 rfl ?_
    refine r_wcall C hN (u1 := 1) (nA := 3) (by omega) [.ref (ad 117), .int (xs (i9 + 1)), .ref (ad 145)] (w_multiplyX l D cs ad hfl M (xs (i9 + 1)) w1) (tt_W ml_L_116 st_L_multiply in_L co_L_multiply) ⟨by decide, by decide, by decide⟩ ⟨Nat.le_of_ble_eq_true rfl, Nat.le_of_ble_eq_true rfl⟩ rfl rfl (Nat.le_of_ble_eq_true rfl) dL_law_469 (fun rw1 Mw qw => ?_)
    obtain ⟨rfl, hc⟩ := qw
    have e1 : Mw.1 = Mw.1 := rfl
    have e2 : Mw.2 145 0 = Mw.2 145 0 := rfl
    have eM : ∀ i, 135 ≤ i → Mw.1 i = M.1 i := eM_lk (lk_eq hc)
    have e136 : Mw.1 136 = M.1 136 := eM 136 (by decide)
    refine r_istore C [(5, .int (nI 1)), (0, .ref b9), (1, .ref (ad 117)), (2, .ref (ad 135)), (3, .ref (ad 145)), (4, .int (nI i9))] dL_law_472 (by decide) rfl ?_
    refine r_aload_n C dL_law_474 rfl 3 rfl ?_
    refine r_aload_n C dL_law_475 rfl 1 rfl ?_
    refine r_iload C dL_law_476 5 rfl ?_
    refine r_iconst C (nI 1) dL_law_478 (by decide) ?_
    refine r_iadd C dL_law_479 ?_
    refine r_topi (nI_add i9 1) ?_
    refine r_sld C hSc (by omega) hL dL_law_480 ?_
    refine r_callV_i (nA := 1) C (by omega) [.int (xs (i9 + 1))] (c_X8_multiplyX l D cs ad Mw (xs (i9 + 1)) w1) (tt_V ml_L_118 im_X8_multiply se_X8_multiply in_X8 co_X8_multiply) ⟨rfl, rfl⟩ ⟨rfl, by decide, by decide, by decide⟩ ⟨Nat.le_of_ble_eq_true rfl, Nat.le_of_ble_eq_true rfl⟩ (by decide) rfl rfl rfl rfl rfl (Nat.le_of_ble_eq_true rfl) dL_law_481 (fun ru1 Mu1 qu1 => ?_)
    obtain ⟨hr1, hm1⟩ := qu1
    have hS9 : Mu1.1 135 7 = nI 1 ∧ Mu1.2 145 0 = _ ∧ RR Mu1 := S_lk hX (lk_eq hc) e1 e2 (show SQ (mI Mw 135 7 (nI 1)) Mu1 by rw [hm1]; exact SQ.rf _)
    refine r_istore C [(6, .int ru1), (5, .int (nI 1)), (0, .ref b9), (1, .ref (ad 117)), (2, .ref (ad 135)), (3, .ref (ad 145)), (4, .int (nI i9))] dL_law_484 (by decide) rfl ?_
    refine r_aload_n C dL_law_486 rfl 4 rfl ?_
    refine r_pcallV_i (nA := 0) C (by omega) [] (c_X8_thrown l D cs ad Mu1) (tt_V ml_L_98 im_X8_thrown se_X8_thrown in_X8 co_X8_thrown) ⟨rfl, rfl⟩ ⟨rfl, by decide, by decide, by decide⟩ ⟨Nat.le_of_ble_eq_true rfl, Nat.le_of_ble_eq_true rfl⟩ (by decide) rfl rfl rfl rfl rfl (Nat.le_of_ble_eq_true rfl) dL_law_487 ?_
    refine r_topi (w := nI 1) hS9.1 ?_
    refine r_iload C dL_law_490 1 rfl ?_
    refine r_icmpN_eq C 497 dL_law_492 (by decide) (by omega) (by omega) (fun h492 => ?_) (fun h492 => ?_)
    ·
      refine r_iload C dL_law_497 1 rfl ?_
      refine r_if_ne C 514 dL_law_499 (by decide) (fun h499 => ?_) (fun h499 => ?_)
      ·
        refine r_goto C 1584 dL_law_514 (by decide) ?_
        refine r_lv (lv2 := [(0, .ref b9), (1, .ref (ad 117)), (2, .ref (ad 135)), (3, .ref (ad 145)), (4, .int (nI i9))]) [2, 3, 4, 5, 6] rfl ?_
        exact k9 _ _ hS9.2.2 (by omega)
      · exact absurd h499 (by decide)
    · exact absurd h492 (by decide)
  | true =>
    obtain ⟨q, -, hq, p1⟩ := wit_rg (by decide) (by decide) w1
    rcases (hks q (by omega)).2 with htk | ⟨htk, n2, d2, hyz, hy⟩
    ·
      refine r_aload_n C dL_law_461 rfl 1 rfl ?_
      refine r_aload_n C dL_law_462 rfl 0 rfl ?_
      refine r_iload C dL_law_463 4 rfl ?_
      refine r_iconst C (nI 1) dL_law_465 (by decide) ?_
      refine r_iadd C dL_law_466 ?_
      refine r_topi (nI_add i9 1) ?_
      refine r_sld C hSc (by omega) hL dL_law_467 ?_
      refine r_topi (w := nI q) p1 ?_
      refine r_aload_n C dL_law_468 rfl 3 rfl ?_
      refine r_wcall C hN (u1 := 1) (nA := 3) (by omega) [.ref (ad 117), .int (nI q), .ref (ad 145)] (w_multiplyF l D cs ad hfl M q hq ((hks q (by omega)).1.trans htk)) (tt_W ml_L_116 st_L_multiply in_L co_L_multiply) ⟨by decide, by decide, by decide⟩ ⟨Nat.le_of_ble_eq_true rfl, Nat.le_of_ble_eq_true rfl⟩ rfl rfl (Nat.le_of_ble_eq_true rfl) dL_law_469 (fun rw1 Mw qw => ?_)
      obtain ⟨rfl, hc⟩ := qw
      have e1 : Mw.1 = Mw.1 := rfl
      have e2 : Mw.2 145 0 = Mw.2 145 0 := rfl
      have eM : ∀ i, 135 ≤ i → Mw.1 i = M.1 i := eM_lk (lk_eq hc)
      have e136 : Mw.1 136 = M.1 136 := eM 136 (by decide)
      refine r_istore C [(5, .int (nI 2)), (0, .ref b9), (1, .ref (ad 117)), (2, .ref (ad 135)), (3, .ref (ad 145)), (4, .int (nI i9))] dL_law_472 (by decide) rfl ?_
      refine r_aload_n C dL_law_474 rfl 3 rfl ?_
      refine r_aload_n C dL_law_475 rfl 1 rfl ?_
      refine r_iload C dL_law_476 5 rfl ?_
      refine r_iconst C (nI 1) dL_law_478 (by decide) ?_
      refine r_iadd C dL_law_479 ?_
      refine r_topi (nI_add i9 1) ?_
      refine r_sld C hSc (by omega) hL dL_law_480 ?_
      refine r_topi (w := nI q) p1 ?_
      refine r_callV_i (nA := 1) C (by omega) [.int (nI q)] (c_X8_multiplyF l D cs ad Mw q hq (by rw [eM 139 (by decide)]; exact htk)) (tt_V ml_L_118 im_X8_multiply se_X8_multiply in_X8 co_X8_multiply) ⟨rfl, rfl⟩ ⟨rfl, by decide, by decide, by decide⟩ ⟨Nat.le_of_ble_eq_true rfl, Nat.le_of_ble_eq_true rfl⟩ (by decide) rfl rfl rfl rfl rfl (Nat.le_of_ble_eq_true rfl) dL_law_481 (fun ru1 Mu1 qu1 => ?_)
      obtain ⟨hr1, hm1⟩ := qu1
      have hS9 : Mu1.1 135 7 = nI 2 ∧ Mu1.2 145 0 = _ ∧ RR Mu1 := S_lk hX (lk_eq hc) e1 e2 (show SQ (mI Mw 135 7 (nI 2)) Mu1 by rw [hm1]; exact SQ.rf _)
      refine r_istore C [(6, .int ru1), (5, .int (nI 2)), (0, .ref b9), (1, .ref (ad 117)), (2, .ref (ad 135)), (3, .ref (ad 145)), (4, .int (nI i9))] dL_law_484 (by decide) rfl ?_
      refine r_aload_n C dL_law_486 rfl 4 rfl ?_
      refine r_pcallV_i (nA := 0) C (by omega) [] (c_X8_thrown l D cs ad Mu1) (tt_V ml_L_98 im_X8_thrown se_X8_thrown in_X8 co_X8_thrown) ⟨rfl, rfl⟩ ⟨rfl, by decide, by decide, by decide⟩ ⟨Nat.le_of_ble_eq_true rfl, Nat.le_of_ble_eq_true rfl⟩ (by decide) rfl rfl rfl rfl rfl (Nat.le_of_ble_eq_true rfl) dL_law_487 ?_
      refine r_topi (w := nI 2) hS9.1 ?_
      refine r_iload C dL_law_490 1 rfl ?_
      refine r_icmpN_eq C 497 dL_law_492 (by decide) (by omega) (by omega) (fun h492 => ?_) (fun h492 => ?_)
      ·
        refine r_iload C dL_law_497 1 rfl ?_
        refine r_if_ne C 514 dL_law_499 (by decide) (fun h499 => ?_) (fun h499 => ?_)
        ·
          refine r_goto C 1584 dL_law_514 (by decide) ?_
          refine r_lv (lv2 := [(0, .ref b9), (1, .ref (ad 117)), (2, .ref (ad 135)), (3, .ref (ad 145)), (4, .int (nI i9))]) [2, 3, 4, 5, 6] rfl ?_
          exact k9 _ _ hS9.2.2 (by omega)
        · exact absurd h499 (by decide)
      · exact absurd h492 (by decide)
    ·
      obtain ⟨eq2, hq2⟩ := gz_gq hyz
      obtain ⟨N9, hNN⟩ : ∃ N9, n * n2 = N9 := ⟨_, rfl⟩
      obtain ⟨dd, hdd⟩ : ∃ dd, d * d2 = dd := ⟨_, rfl⟩
      rcases Nat.lt_or_ge 8 N9 with h8 | h8
      ·
        refine r_aload_n C dL_law_461 rfl 1 rfl ?_
        refine r_aload_n C dL_law_462 rfl 0 rfl ?_
        refine r_iload C dL_law_463 4 rfl ?_
        refine r_iconst C (nI 1) dL_law_465 (by decide) ?_
        refine r_iadd C dL_law_466 ?_
        refine r_topi (nI_add i9 1) ?_
        refine r_sld C hSc (by omega) hL dL_law_467 ?_
        refine r_topi (w := nI q) p1 ?_
        refine r_aload_n C dL_law_468 rfl 3 rfl ?_
        refine r_wcall C hN (u1 := 1) (nA := 3) (by omega) [.ref (ad 117), .int (nI q), .ref (ad 145)] (w_multiplyN l D cs ad hfl M (M.1 136) n d hg hn8 q hq ((hks q (by omega)).1.trans htk) (fun p => M.1 138 (55 * q + p)) n2 d2 hy hyz.2.2.1.2 hd4 hyz.2.2.2.1.2 N9 dd hNN hdd (by unfold rzI; rw [if_pos h8]; decide)) (tt_W ml_L_116 st_L_multiply in_L co_L_multiply) ⟨by decide, by decide, by decide⟩ ⟨Nat.le_of_ble_eq_true rfl, Nat.le_of_ble_eq_true rfl⟩ rfl rfl (Nat.le_of_ble_eq_true rfl) dL_law_469 (fun rw1 Mw qw => ?_)
        obtain ⟨rfl, hc⟩ := qw
        have e1 : Mw.1 = Mw.1 := rfl
        have e2 : Mw.2 145 0 = Mw.2 145 0 := rfl
        have eM : ∀ i, 135 ≤ i → Mw.1 i = M.1 i := eM_lk (lk_eq hc)
        have e136 : Mw.1 136 = M.1 136 := eM 136 (by decide)
        refine r_istore C [(5, .int (nI 2)), (0, .ref b9), (1, .ref (ad 117)), (2, .ref (ad 135)), (3, .ref (ad 145)), (4, .int (nI i9))] dL_law_472 (by decide) rfl ?_
        refine r_aload_n C dL_law_474 rfl 3 rfl ?_
        refine r_aload_n C dL_law_475 rfl 1 rfl ?_
        refine r_iload C dL_law_476 5 rfl ?_
        refine r_iconst C (nI 1) dL_law_478 (by decide) ?_
        refine r_iadd C dL_law_479 ?_
        refine r_topi (nI_add i9 1) ?_
        refine r_sld C hSc (by omega) hL dL_law_480 ?_
        refine r_topi (w := nI q) p1 ?_
        refine r_callV_i (nA := 1) C (by omega) [.int (nI q)] (c_X8_multiplyN1 l D cs ad Mw n (by rw [e136]; exact hz.1) hn8 d (by rw [e136]; exact hz.2.1) hd4 q n2 d2 hq (by rw [eM 138 (by decide)]; exact hyz.1) (by rw [eM 138 (by decide)]; exact hyz.2.1) hyz.2.2.1.2 hyz.2.2.2.1.2 N9 dd hNN hdd h8 (by rw [eM 139 (by decide)]; exact htk)) (tt_V ml_L_118 im_X8_multiply se_X8_multiply in_X8 co_X8_multiply) ⟨rfl, rfl⟩ ⟨rfl, by decide, by decide, by decide⟩ ⟨Nat.le_of_ble_eq_true rfl, Nat.le_of_ble_eq_true rfl⟩ (by decide) rfl rfl rfl rfl rfl (Nat.le_of_ble_eq_true rfl) dL_law_481 (fun ru1 Mu1 qu1 => ?_)
        obtain ⟨hr1, hm1⟩ := qu1
        have hS9 : Mu1.1 135 7 = nI 2 ∧ Mu1.2 145 0 = _ ∧ RR Mu1 := S_lk hX (lk_eq hc) e1 e2 (show SQ (mI Mw 135 7 (nI 2)) Mu1 by rw [hm1]; exact SQ.I2)
        refine r_istore C [(6, .int ru1), (5, .int (nI 2)), (0, .ref b9), (1, .ref (ad 117)), (2, .ref (ad 135)), (3, .ref (ad 145)), (4, .int (nI i9))] dL_law_484 (by decide) rfl ?_
        refine r_aload_n C dL_law_486 rfl 4 rfl ?_
        refine r_pcallV_i (nA := 0) C (by omega) [] (c_X8_thrown l D cs ad Mu1) (tt_V ml_L_98 im_X8_thrown se_X8_thrown in_X8 co_X8_thrown) ⟨rfl, rfl⟩ ⟨rfl, by decide, by decide, by decide⟩ ⟨Nat.le_of_ble_eq_true rfl, Nat.le_of_ble_eq_true rfl⟩ (by decide) rfl rfl rfl rfl rfl (Nat.le_of_ble_eq_true rfl) dL_law_487 ?_
        refine r_topi (w := nI 2) hS9.1 ?_
        refine r_iload C dL_law_490 1 rfl ?_
        refine r_icmpN_eq C 497 dL_law_492 (by decide) (by omega) (by omega) (fun h492 => ?_) (fun h492 => ?_)
        ·
          refine r_iload C dL_law_497 1 rfl ?_
          refine r_if_ne C 514 dL_law_499 (by decide) (fun h499 => ?_) (fun h499 => ?_)
          ·
            refine r_goto C 1584 dL_law_514 (by decide) ?_
            refine r_lv (lv2 := [(0, .ref b9), (1, .ref (ad 117)), (2, .ref (ad 135)), (3, .ref (ad 145)), (4, .int (nI i9))]) [2, 3, 4, 5, 6] rfl ?_
            exact k9 _ _ hS9.2.2 (by omega)
          · exact absurd h499 (by decide)
        · exact absurd h492 (by decide)
      ·
        rcases Nat.lt_or_ge 4 dd with h4 | h4
        ·
          refine r_aload_n C dL_law_461 rfl 1 rfl ?_
          refine r_aload_n C dL_law_462 rfl 0 rfl ?_
          refine r_iload C dL_law_463 4 rfl ?_
          refine r_iconst C (nI 1) dL_law_465 (by decide) ?_
          refine r_iadd C dL_law_466 ?_
          refine r_topi (nI_add i9 1) ?_
          refine r_sld C hSc (by omega) hL dL_law_467 ?_
          refine r_topi (w := nI q) p1 ?_
          refine r_aload_n C dL_law_468 rfl 3 rfl ?_
          refine r_wcall C hN (u1 := 1) (nA := 3) (by omega) [.ref (ad 117), .int (nI q), .ref (ad 145)] (w_multiplyN l D cs ad hfl M (M.1 136) n d hg hn8 q hq ((hks q (by omega)).1.trans htk) (fun p => M.1 138 (55 * q + p)) n2 d2 hy hyz.2.2.1.2 hd4 hyz.2.2.2.1.2 N9 dd hNN hdd (by unfold rzI; rw [if_neg (by omega), if_pos h4]; decide)) (tt_W ml_L_116 st_L_multiply in_L co_L_multiply) ⟨by decide, by decide, by decide⟩ ⟨Nat.le_of_ble_eq_true rfl, Nat.le_of_ble_eq_true rfl⟩ rfl rfl (Nat.le_of_ble_eq_true rfl) dL_law_469 (fun rw1 Mw qw => ?_)
          obtain ⟨rfl, hc⟩ := qw
          have e1 : Mw.1 = Mw.1 := rfl
          have e2 : Mw.2 145 0 = Mw.2 145 0 := rfl
          have eM : ∀ i, 135 ≤ i → Mw.1 i = M.1 i := eM_lk (lk_eq hc)
          have e136 : Mw.1 136 = M.1 136 := eM 136 (by decide)
          refine r_istore C [(5, .int (nI 2)), (0, .ref b9), (1, .ref (ad 117)), (2, .ref (ad 135)), (3, .ref (ad 145)), (4, .int (nI i9))] dL_law_472 (by decide) rfl ?_
          refine r_aload_n C dL_law_474 rfl 3 rfl ?_
          refine r_aload_n C dL_law_475 rfl 1 rfl ?_
          refine r_iload C dL_law_476 5 rfl ?_
          refine r_iconst C (nI 1) dL_law_478 (by decide) ?_
          refine r_iadd C dL_law_479 ?_
          refine r_topi (nI_add i9 1) ?_
          refine r_sld C hSc (by omega) hL dL_law_480 ?_
          refine r_topi (w := nI q) p1 ?_
          refine r_callV_i (nA := 1) C (by omega) [.int (nI q)] (c_X8_multiplyN2 l D cs ad Mw n (by rw [e136]; exact hz.1) hn8 d (by rw [e136]; exact hz.2.1) hd4 q n2 d2 hq (by rw [eM 138 (by decide)]; exact hyz.1) (by rw [eM 138 (by decide)]; exact hyz.2.1) hyz.2.2.1.2 hyz.2.2.2.1.2 N9 dd hNN hdd h8 h4 (by rw [eM 139 (by decide)]; exact htk)) (tt_V ml_L_118 im_X8_multiply se_X8_multiply in_X8 co_X8_multiply) ⟨rfl, rfl⟩ ⟨rfl, by decide, by decide, by decide⟩ ⟨Nat.le_of_ble_eq_true rfl, Nat.le_of_ble_eq_true rfl⟩ (by decide) rfl rfl rfl rfl rfl (Nat.le_of_ble_eq_true rfl) dL_law_481 (fun ru1 Mu1 qu1 => ?_)
          obtain ⟨hr1, hm1⟩ := qu1
          have hS9 : Mu1.1 135 7 = nI 2 ∧ Mu1.2 145 0 = _ ∧ RR Mu1 := S_lk hX (lk_eq hc) e1 e2 (show SQ (mI Mw 135 7 (nI 2)) Mu1 by rw [hm1]; exact SQ.I2)
          refine r_istore C [(6, .int ru1), (5, .int (nI 2)), (0, .ref b9), (1, .ref (ad 117)), (2, .ref (ad 135)), (3, .ref (ad 145)), (4, .int (nI i9))] dL_law_484 (by decide) rfl ?_
          refine r_aload_n C dL_law_486 rfl 4 rfl ?_
          refine r_pcallV_i (nA := 0) C (by omega) [] (c_X8_thrown l D cs ad Mu1) (tt_V ml_L_98 im_X8_thrown se_X8_thrown in_X8 co_X8_thrown) ⟨rfl, rfl⟩ ⟨rfl, by decide, by decide, by decide⟩ ⟨Nat.le_of_ble_eq_true rfl, Nat.le_of_ble_eq_true rfl⟩ (by decide) rfl rfl rfl rfl rfl (Nat.le_of_ble_eq_true rfl) dL_law_487 ?_
          refine r_topi (w := nI 2) hS9.1 ?_
          refine r_iload C dL_law_490 1 rfl ?_
          refine r_icmpN_eq C 497 dL_law_492 (by decide) (by omega) (by omega) (fun h492 => ?_) (fun h492 => ?_)
          ·
            refine r_iload C dL_law_497 1 rfl ?_
            refine r_if_ne C 514 dL_law_499 (by decide) (fun h499 => ?_) (fun h499 => ?_)
            ·
              refine r_goto C 1584 dL_law_514 (by decide) ?_
              refine r_lv (lv2 := [(0, .ref b9), (1, .ref (ad 117)), (2, .ref (ad 135)), (3, .ref (ad 145)), (4, .int (nI i9))]) [2, 3, 4, 5, 6] rfl ?_
              exact k9 _ _ hS9.2.2 (by omega)
            · exact absurd h499 (by decide)
          · exact absurd h492 (by decide)
        ·
          by_cases hl0 : lpr (M.1 136) (fun p => M.1 138 (55 * q + p)) N9 dd n2 d2 = nI 0
          ·
            refine r_aload_n C dL_law_461 rfl 1 rfl ?_
            refine r_aload_n C dL_law_462 rfl 0 rfl ?_
            refine r_iload C dL_law_463 4 rfl ?_
            refine r_iconst C (nI 1) dL_law_465 (by decide) ?_
            refine r_iadd C dL_law_466 ?_
            refine r_topi (nI_add i9 1) ?_
            refine r_sld C hSc (by omega) hL dL_law_467 ?_
            refine r_topi (w := nI q) p1 ?_
            refine r_aload_n C dL_law_468 rfl 3 rfl ?_
            refine r_wcall C hN (u1 := 0) (nA := 3) (by omega) [.ref (ad 117), .int (nI q), .ref (ad 145)] (w_multiply l D cs ad M (M.1 136) n d hg hn8 lt hlt hlt6 s9 hs hs6 q hq ((hks q (by omega)).1.trans htk) (fun p => M.1 138 (55 * q + p)) n2 d2 hy hyz.2.2.1.2 hd4 hyz.2.2.2.1.2 N9 dd hNN hdd hn1 hyz.2.2.1.1 hd1 hyz.2.2.2.1.1 hm (gz_gm hyz) h8 h4 (by rw [(rz_lpr hq0 hq2 hNN hdd h8 h4)]; exact hl0) (M.1 142)) (tt_W ml_L_116 st_L_multiply in_L co_L_multiply) ⟨by decide, by decide, by decide⟩ ⟨Nat.le_of_ble_eq_true rfl, Nat.le_of_ble_eq_true rfl⟩ rfl rfl (Nat.le_of_ble_eq_true rfl) dL_law_469 (fun rw1 Mw qw => ?_)
            obtain ⟨rfl, v9, M9, hp9, hw9b⟩ := qw
            have e1 : Mw.1 = M9.1 := by rw [hw9b]; rfl
            have e2 : Mw.2 145 0 = v9.toInt64 := by rw [hw9b, mJ_eq, vL_e]
            obtain ⟨hvv, M1, M8, hsv, ho, hg3, hc⟩ := hp9
            have eM : ∀ i, 135 ≤ i → Mw.1 i = M.1 i := fun i hi => by rw [e1]; exact (show ∀ i, 135 ≤ i → M9.1 i = M.1 i from by rw [hc]; exact eM_mu hlt6 hsv ho (by decide)) i hi
            have e136 : Mw.1 136 = M.1 136 := eM 136 (by decide)
            refine r_istore C [(5, .int (nI 0)), (0, .ref b9), (1, .ref (ad 117)), (2, .ref (ad 135)), (3, .ref (ad 145)), (4, .int (nI i9))] dL_law_472 (by decide) rfl ?_
            refine r_aload_n C dL_law_474 rfl 3 rfl ?_
            refine r_aload_n C dL_law_475 rfl 1 rfl ?_
            refine r_iload C dL_law_476 5 rfl ?_
            refine r_iconst C (nI 1) dL_law_478 (by decide) ?_
            refine r_iadd C dL_law_479 ?_
            refine r_topi (nI_add i9 1) ?_
            refine r_sld C hSc (by omega) hL dL_law_480 ?_
            refine r_topi (w := nI q) p1 ?_
            refine r_callV_i (nA := 1) C (by omega) [.int (nI q)] (c_X8_multiply l D cs ad Mw n (by rw [e136]; exact hz.1) hn8 d (by rw [e136]; exact hz.2.1) hd4 q n2 d2 hq (by rw [eM 138 (by decide)]; exact hyz.1) (by rw [eM 138 (by decide)]; exact hyz.2.1) hyz.2.2.1.2 hyz.2.2.2.1.2 N9 dd hNN hdd h8 h4 hn1 hyz.2.2.1.1 hd1 hyz.2.2.2.1.1 (by rw [eM 139 (by decide)]; exact htk) s9 (by rw [eM 135 (by decide)]; exact hms) hs6 (by rw [e136, eM 138 (by decide)]; exact hl0)) (tt_V ml_L_118 im_X8_multiply se_X8_multiply in_X8 co_X8_multiply) ⟨rfl, rfl⟩ ⟨rfl, by decide, by decide, by decide⟩ ⟨Nat.le_of_ble_eq_true rfl, Nat.le_of_ble_eq_true rfl⟩ (by decide) rfl rfl rfl rfl rfl (Nat.le_of_ble_eq_true rfl) dL_law_481 (fun ru1 Mu1 qu1 => ?_)
            rw [e136, eM 138 (by decide), eM 142 (by decide)] at qu1
            obtain ⟨hr1, hm1⟩ := qu1
            have hS9 : Mu1.1 135 7 = nI 0 ∧ Mu1.2 145 0 = _ ∧ RR Mu1 := S_mu hX hsv ho hg3 hc (gz_cg (y := fun j => if j < 54 then (mdR (M.1 142) (M.1 136) (fun p => M.1 138 (55 * q + p)) N9 dd n2 d2) j else M.1 136 54 + nI 1) (gq_gz (gq_md hq0 hq2 hNN hdd h8 h4 hl0 (M.1 142))) (fun j hj => if_pos hj)) (fun j hj => if_pos hj) (if_neg (by decide)) e1 e2 (by rw [hm1]; exact ms_mu) ov_md
            have hv9 : Mu1.2 145 0 = ru1.toInt64 := by rw [hS9.2.1, hvv, hr1]
            refine r_istore C [(6, .int ru1), (5, .int (nI 0)), (0, .ref b9), (1, .ref (ad 117)), (2, .ref (ad 135)), (3, .ref (ad 145)), (4, .int (nI i9))] dL_law_484 (by decide) rfl ?_
            refine r_aload_n C dL_law_486 rfl 4 rfl ?_
            refine r_pcallV_i (nA := 0) C (by omega) [] (c_X8_thrown l D cs ad Mu1) (tt_V ml_L_98 im_X8_thrown se_X8_thrown in_X8 co_X8_thrown) ⟨rfl, rfl⟩ ⟨rfl, by decide, by decide, by decide⟩ ⟨Nat.le_of_ble_eq_true rfl, Nat.le_of_ble_eq_true rfl⟩ (by decide) rfl rfl rfl rfl rfl (Nat.le_of_ble_eq_true rfl) dL_law_487 ?_
            refine r_topi (w := nI 0) hS9.1 ?_
            refine r_iload C dL_law_490 1 rfl ?_
            refine r_icmpN_eq C 497 dL_law_492 (by decide) (by omega) (by omega) (fun h492 => ?_) (fun h492 => ?_)
            ·
              refine r_iload C dL_law_497 1 rfl ?_
              refine r_if_ne C 514 dL_law_499 (by decide) (fun h499 => ?_) (fun h499 => ?_)
              · exact absurd rfl h499
              ·
                refine r_aload_n C dL_law_502 rfl 5 rfl ?_
                refine r_iconst C (nI 0) dL_law_503 (by decide) ?_
                refine r_lald C (id := 145) (n := 1) (a := 0) (by decide) rfl (by decide) (by decide) dL_law_504 ?_
                refine r_topl (w := ru1.toInt64) hv9 ?_
                refine r_iload C dL_law_505 0 rfl ?_
                refine r_i2l C dL_law_507 ?_
                refine r_lcmp C dL_law_508 ?_
                refine r_if_eq C 514 dL_law_509 (by decide) (fun h509 => ?_) (fun h509 => ?_)
                ·
                  rw [lgc_eq] at h509
                  refine r_goto C 1584 dL_law_514 (by decide) ?_
                  refine r_lv (lv2 := [(0, .ref b9), (1, .ref (ad 117)), (2, .ref (ad 135)), (3, .ref (ad 145)), (4, .int (nI i9))]) [2, 3, 4, 5, 6] rfl ?_
                  exact k9 _ _ hS9.2.2 (by omega)
                · exact absurd (lgcT _) h509
            · exact absurd h492 (by decide)
          ·
            refine r_aload_n C dL_law_461 rfl 1 rfl ?_
            refine r_aload_n C dL_law_462 rfl 0 rfl ?_
            refine r_iload C dL_law_463 4 rfl ?_
            refine r_iconst C (nI 1) dL_law_465 (by decide) ?_
            refine r_iadd C dL_law_466 ?_
            refine r_topi (nI_add i9 1) ?_
            refine r_sld C hSc (by omega) hL dL_law_467 ?_
            refine r_topi (w := nI q) p1 ?_
            refine r_aload_n C dL_law_468 rfl 3 rfl ?_
            refine r_wcall C hN (u1 := 1) (nA := 3) (by omega) [.ref (ad 117), .int (nI q), .ref (ad 145)] (w_multiplyN l D cs ad hfl M (M.1 136) n d hg hn8 q hq ((hks q (by omega)).1.trans htk) (fun p => M.1 138 (55 * q + p)) n2 d2 hy hyz.2.2.1.2 hd4 hyz.2.2.2.1.2 N9 dd hNN hdd (by rw [(rz_lpr hq0 hq2 hNN hdd h8 h4)]; exact hl0)) (tt_W ml_L_116 st_L_multiply in_L co_L_multiply) ⟨by decide, by decide, by decide⟩ ⟨Nat.le_of_ble_eq_true rfl, Nat.le_of_ble_eq_true rfl⟩ rfl rfl (Nat.le_of_ble_eq_true rfl) dL_law_469 (fun rw1 Mw qw => ?_)
            obtain ⟨rfl, hc⟩ := qw
            have e1 : Mw.1 = Mw.1 := rfl
            have e2 : Mw.2 145 0 = Mw.2 145 0 := rfl
            have eM : ∀ i, 135 ≤ i → Mw.1 i = M.1 i := eM_lk (lk_eq hc)
            have e136 : Mw.1 136 = M.1 136 := eM 136 (by decide)
            refine r_istore C [(5, .int (nI 2)), (0, .ref b9), (1, .ref (ad 117)), (2, .ref (ad 135)), (3, .ref (ad 145)), (4, .int (nI i9))] dL_law_472 (by decide) rfl ?_
            refine r_aload_n C dL_law_474 rfl 3 rfl ?_
            refine r_aload_n C dL_law_475 rfl 1 rfl ?_
            refine r_iload C dL_law_476 5 rfl ?_
            refine r_iconst C (nI 1) dL_law_478 (by decide) ?_
            refine r_iadd C dL_law_479 ?_
            refine r_topi (nI_add i9 1) ?_
            refine r_sld C hSc (by omega) hL dL_law_480 ?_
            refine r_topi (w := nI q) p1 ?_
            refine r_callV_i (nA := 1) C (by omega) [.int (nI q)] (c_X8_multiplyN3 l D cs ad Mw n (by rw [e136]; exact hz.1) hn8 d (by rw [e136]; exact hz.2.1) hd4 q n2 d2 hq (by rw [eM 138 (by decide)]; exact hyz.1) (by rw [eM 138 (by decide)]; exact hyz.2.1) hyz.2.2.1.2 hyz.2.2.2.1.2 N9 dd hNN hdd h8 h4 hn1 hyz.2.2.1.1 hd1 hyz.2.2.2.1.1 (by rw [e136, eM 138 (by decide)]; exact hl0) (by rw [eM 139 (by decide)]; exact htk)) (tt_V ml_L_118 im_X8_multiply se_X8_multiply in_X8 co_X8_multiply) ⟨rfl, rfl⟩ ⟨rfl, by decide, by decide, by decide⟩ ⟨Nat.le_of_ble_eq_true rfl, Nat.le_of_ble_eq_true rfl⟩ (by decide) rfl rfl rfl rfl rfl (Nat.le_of_ble_eq_true rfl) dL_law_481 (fun ru1 Mu1 qu1 => ?_)
            obtain ⟨hr1, hm1⟩ := qu1
            have hS9 : Mu1.1 135 7 = nI 2 ∧ Mu1.2 145 0 = _ ∧ RR Mu1 := S_lk hX (lk_eq hc) e1 e2 (show SQ (mI Mw 135 7 (nI 2)) Mu1 by rw [hm1]; exact SQ.IA (by decide))
            refine r_istore C [(6, .int ru1), (5, .int (nI 2)), (0, .ref b9), (1, .ref (ad 117)), (2, .ref (ad 135)), (3, .ref (ad 145)), (4, .int (nI i9))] dL_law_484 (by decide) rfl ?_
            refine r_aload_n C dL_law_486 rfl 4 rfl ?_
            refine r_pcallV_i (nA := 0) C (by omega) [] (c_X8_thrown l D cs ad Mu1) (tt_V ml_L_98 im_X8_thrown se_X8_thrown in_X8 co_X8_thrown) ⟨rfl, rfl⟩ ⟨rfl, by decide, by decide, by decide⟩ ⟨Nat.le_of_ble_eq_true rfl, Nat.le_of_ble_eq_true rfl⟩ (by decide) rfl rfl rfl rfl rfl (Nat.le_of_ble_eq_true rfl) dL_law_487 ?_
            refine r_topi (w := nI 2) hS9.1 ?_
            refine r_iload C dL_law_490 1 rfl ?_
            refine r_icmpN_eq C 497 dL_law_492 (by decide) (by omega) (by omega) (fun h492 => ?_) (fun h492 => ?_)
            ·
              refine r_iload C dL_law_497 1 rfl ?_
              refine r_if_ne C 514 dL_law_499 (by decide) (fun h499 => ?_) (fun h499 => ?_)
              ·
                refine r_goto C 1584 dL_law_514 (by decide) ?_
                refine r_lv (lv2 := [(0, .ref b9), (1, .ref (ad 117)), (2, .ref (ad 135)), (3, .ref (ad 145)), (4, .int (nI i9))]) [2, 3, 4, 5, 6] rfl ?_
                exact k9 _ _ hS9.2.2 (by omega)
              · exact absurd h499 (by decide)
            · exact absurd h492 (by decide)
set_option maxRecDepth 100000 in
set_option maxHeartbeats 4000000 in
theorem LC_whyNotMultiply {l : Launch} {D : va_G} {cs : Nat → ClassId} {ad : Nat → Nat} {κ : Kx} {u U : Nat} {M : Mm} (C : CX D cs ad cL_law 9 RL 2048 84000 U κ) (hN : CN ad κ) (hfl : l.stackTraces = false) {b9 L i9 : Nat} {xs : Nat → Int32} (hSc : CSX ad b9 L xs κ) (hL : L ≤ 2048) (hj : i9 + 4 ≤ L) {s9 lt len n d : Nat} {ct : Nat → Nat} (hX : RX M s9 lt len ct n d) (hu : u + 1 ≤ U) (k9 : ∀ (u2 : Nat) (M2 : Mm), RR M2 → u2 ≤ u + 1 → VV l D cs ad 9 κ u2 M2 1584 [(0, .ref b9), (1, .ref (ad 117)), (2, .ref (ad 135)), (3, .ref (ad 145)), (4, .int (nI i9))] []) : VV l D cs ad 9 κ u M 1350 [(0, .ref b9), (1, .ref (ad 117)), (2, .ref (ad 135)), (3, .ref (ad 145)), (4, .int (nI i9))] [] := by
  obtain ⟨hz, hg, hpm, hks, hkh, hkt, hms, hml, htx⟩ := (show RX M s9 lt len ct n d from hX)
  obtain ⟨hzn, hzd, ⟨hn1, hn8⟩, ⟨hd1, hd4⟩, ⟨mk, hk⟩, hsy, hw9, hlb, hhb, hlz, hz0⟩ := (show gz (M.1 136) n d from hz)
  obtain ⟨hlt, hlt6, hs, hs6, hhi⟩ := (show KH M (fun j p => M.1 137 (55 * j + p)) s9 lt from hkh)
  obtain ⟨hlen, hl60, hct⟩ := (show KT M ct len from hkt)
  have hm := gk_gm hn8 hk
  obtain ⟨e0, hq0⟩ := gz_gq hz
  cases w1 : (wit (xs (i9 + 1)) (nI 0) (nI 1)) with
  | false =>
    refine r_aload_n C dL_law_1350 rfl 1 rfl ?_
    refine r_aload_n C dL_law_1351 rfl 0 rfl ?_
    refine r_iload C dL_law_1352 4 rfl ?_
    refine r_iconst C (nI 1) dL_law_1354 (by decide) ?_
    refine r_iadd C dL_law_1355 ?_
    refine r_topi (nI_add i9 1) ?_
    refine r_sld C hSc (by omega) hL dL_law_1356 ?_
    refine r_aload_n C dL_law_1357 rfl 3 rfl ?_
    refine r_wcall C hN (u1 := 1) (nA := 3) (by omega) [.ref (ad 117), .int (xs (i9 + 1)), .ref (ad 145)] (w_whyNotMultiplyX l D cs ad hfl M (xs (i9 + 1)) w1) (tt_W ml_L_171 st_L_whyNotMultiply in_L co_L_whyNotMultiply) ⟨by decide, by decide, by decide⟩ ⟨Nat.le_of_ble_eq_true rfl, Nat.le_of_ble_eq_true rfl⟩ rfl rfl (Nat.le_of_ble_eq_true rfl) dL_law_1358 (fun rw1 Mw qw => ?_)
    obtain ⟨rfl, hc⟩ := qw
    have e1 : Mw.1 = Mw.1 := rfl
    have e2 : Mw.2 145 0 = Mw.2 145 0 := rfl
    have eM : ∀ i, 135 ≤ i → Mw.1 i = M.1 i := eM_lk (lk_eq hc)
    have e136 : Mw.1 136 = M.1 136 := eM 136 (by decide)
    refine r_istore C [(5, .int (nI 1)), (0, .ref b9), (1, .ref (ad 117)), (2, .ref (ad 135)), (3, .ref (ad 145)), (4, .int (nI i9))] dL_law_1361 (by decide) rfl ?_
    refine r_aload_n C dL_law_1363 rfl 3 rfl ?_
    refine r_aload_n C dL_law_1364 rfl 1 rfl ?_
    refine r_iload C dL_law_1365 5 rfl ?_
    refine r_iconst C (nI 1) dL_law_1367 (by decide) ?_
    refine r_iadd C dL_law_1368 ?_
    refine r_topi (nI_add i9 1) ?_
    refine r_sld C hSc (by omega) hL dL_law_1369 ?_
    refine r_callV_i (nA := 1) C (by omega) [.int (xs (i9 + 1))] (c_X8_whyNotMultiplyX l D cs ad Mw (xs (i9 + 1)) w1) (tt_V ml_L_173 im_X8_whyNotMultiply se_X8_whyNotMultiply in_X8 co_X8_whyNotMultiply) ⟨rfl, rfl⟩ ⟨rfl, by decide, by decide, by decide⟩ ⟨Nat.le_of_ble_eq_true rfl, Nat.le_of_ble_eq_true rfl⟩ (by decide) rfl rfl rfl rfl rfl (Nat.le_of_ble_eq_true rfl) dL_law_1370 (fun ru1 Mu1 qu1 => ?_)
    obtain ⟨hr1, hm1⟩ := qu1
    have hS9 : Mu1.1 135 7 = nI 1 ∧ Mu1.2 145 0 = _ ∧ RR Mu1 := S_lk hX (lk_eq hc) e1 e2 (show SQ (mI Mw 135 7 (nI 1)) Mu1 by rw [hm1]; exact SQ.rf _)
    refine r_istore C [(6, .int ru1), (5, .int (nI 1)), (0, .ref b9), (1, .ref (ad 117)), (2, .ref (ad 135)), (3, .ref (ad 145)), (4, .int (nI i9))] dL_law_1373 (by decide) rfl ?_
    refine r_aload_n C dL_law_1375 rfl 4 rfl ?_
    refine r_pcallV_i (nA := 0) C (by omega) [] (c_X8_thrown l D cs ad Mu1) (tt_V ml_L_98 im_X8_thrown se_X8_thrown in_X8 co_X8_thrown) ⟨rfl, rfl⟩ ⟨rfl, by decide, by decide, by decide⟩ ⟨Nat.le_of_ble_eq_true rfl, Nat.le_of_ble_eq_true rfl⟩ (by decide) rfl rfl rfl rfl rfl (Nat.le_of_ble_eq_true rfl) dL_law_1376 ?_
    refine r_topi (w := nI 1) hS9.1 ?_
    refine r_iload C dL_law_1379 1 rfl ?_
    refine r_icmpN_eq C 1386 dL_law_1381 (by decide) (by omega) (by omega) (fun h1381 => ?_) (fun h1381 => ?_)
    ·
      refine r_iload C dL_law_1386 1 rfl ?_
      refine r_if_ne C 1403 dL_law_1388 (by decide) (fun h1388 => ?_) (fun h1388 => ?_)
      ·
        refine r_goto C 1584 dL_law_1403 (by decide) ?_
        refine r_lv (lv2 := [(0, .ref b9), (1, .ref (ad 117)), (2, .ref (ad 135)), (3, .ref (ad 145)), (4, .int (nI i9))]) [2, 3, 4, 5, 6] rfl ?_
        exact k9 _ _ hS9.2.2 (by omega)
      · exact absurd h1388 (by decide)
    · exact absurd h1381 (by decide)
  | true =>
    obtain ⟨q, -, hq, p1⟩ := wit_rg (by decide) (by decide) w1
    rcases (hks q (by omega)).2 with htk | ⟨htk, n2, d2, hyz, hy⟩
    ·
      refine r_aload_n C dL_law_1350 rfl 1 rfl ?_
      refine r_aload_n C dL_law_1351 rfl 0 rfl ?_
      refine r_iload C dL_law_1352 4 rfl ?_
      refine r_iconst C (nI 1) dL_law_1354 (by decide) ?_
      refine r_iadd C dL_law_1355 ?_
      refine r_topi (nI_add i9 1) ?_
      refine r_sld C hSc (by omega) hL dL_law_1356 ?_
      refine r_topi (w := nI q) p1 ?_
      refine r_aload_n C dL_law_1357 rfl 3 rfl ?_
      refine r_wcall C hN (u1 := 1) (nA := 3) (by omega) [.ref (ad 117), .int (nI q), .ref (ad 145)] (w_whyNotMultiplyF l D cs ad hfl M q hq ((hks q (by omega)).1.trans htk)) (tt_W ml_L_171 st_L_whyNotMultiply in_L co_L_whyNotMultiply) ⟨by decide, by decide, by decide⟩ ⟨Nat.le_of_ble_eq_true rfl, Nat.le_of_ble_eq_true rfl⟩ rfl rfl (Nat.le_of_ble_eq_true rfl) dL_law_1358 (fun rw1 Mw qw => ?_)
      obtain ⟨rfl, hc⟩ := qw
      have e1 : Mw.1 = Mw.1 := rfl
      have e2 : Mw.2 145 0 = Mw.2 145 0 := rfl
      have eM : ∀ i, 135 ≤ i → Mw.1 i = M.1 i := eM_lk (lk_eq hc)
      have e136 : Mw.1 136 = M.1 136 := eM 136 (by decide)
      refine r_istore C [(5, .int (nI 2)), (0, .ref b9), (1, .ref (ad 117)), (2, .ref (ad 135)), (3, .ref (ad 145)), (4, .int (nI i9))] dL_law_1361 (by decide) rfl ?_
      refine r_aload_n C dL_law_1363 rfl 3 rfl ?_
      refine r_aload_n C dL_law_1364 rfl 1 rfl ?_
      refine r_iload C dL_law_1365 5 rfl ?_
      refine r_iconst C (nI 1) dL_law_1367 (by decide) ?_
      refine r_iadd C dL_law_1368 ?_
      refine r_topi (nI_add i9 1) ?_
      refine r_sld C hSc (by omega) hL dL_law_1369 ?_
      refine r_topi (w := nI q) p1 ?_
      refine r_callV_i (nA := 1) C (by omega) [.int (nI q)] (c_X8_whyNotMultiplyF l D cs ad Mw q hq (by rw [eM 139 (by decide)]; exact htk)) (tt_V ml_L_173 im_X8_whyNotMultiply se_X8_whyNotMultiply in_X8 co_X8_whyNotMultiply) ⟨rfl, rfl⟩ ⟨rfl, by decide, by decide, by decide⟩ ⟨Nat.le_of_ble_eq_true rfl, Nat.le_of_ble_eq_true rfl⟩ (by decide) rfl rfl rfl rfl rfl (Nat.le_of_ble_eq_true rfl) dL_law_1370 (fun ru1 Mu1 qu1 => ?_)
      obtain ⟨hr1, hm1⟩ := qu1
      have hS9 : Mu1.1 135 7 = nI 2 ∧ Mu1.2 145 0 = _ ∧ RR Mu1 := S_lk hX (lk_eq hc) e1 e2 (show SQ (mI Mw 135 7 (nI 2)) Mu1 by rw [hm1]; exact SQ.rf _)
      refine r_istore C [(6, .int ru1), (5, .int (nI 2)), (0, .ref b9), (1, .ref (ad 117)), (2, .ref (ad 135)), (3, .ref (ad 145)), (4, .int (nI i9))] dL_law_1373 (by decide) rfl ?_
      refine r_aload_n C dL_law_1375 rfl 4 rfl ?_
      refine r_pcallV_i (nA := 0) C (by omega) [] (c_X8_thrown l D cs ad Mu1) (tt_V ml_L_98 im_X8_thrown se_X8_thrown in_X8 co_X8_thrown) ⟨rfl, rfl⟩ ⟨rfl, by decide, by decide, by decide⟩ ⟨Nat.le_of_ble_eq_true rfl, Nat.le_of_ble_eq_true rfl⟩ (by decide) rfl rfl rfl rfl rfl (Nat.le_of_ble_eq_true rfl) dL_law_1376 ?_
      refine r_topi (w := nI 2) hS9.1 ?_
      refine r_iload C dL_law_1379 1 rfl ?_
      refine r_icmpN_eq C 1386 dL_law_1381 (by decide) (by omega) (by omega) (fun h1381 => ?_) (fun h1381 => ?_)
      ·
        refine r_iload C dL_law_1386 1 rfl ?_
        refine r_if_ne C 1403 dL_law_1388 (by decide) (fun h1388 => ?_) (fun h1388 => ?_)
        ·
          refine r_goto C 1584 dL_law_1403 (by decide) ?_
          refine r_lv (lv2 := [(0, .ref b9), (1, .ref (ad 117)), (2, .ref (ad 135)), (3, .ref (ad 145)), (4, .int (nI i9))]) [2, 3, 4, 5, 6] rfl ?_
          exact k9 _ _ hS9.2.2 (by omega)
        · exact absurd h1388 (by decide)
      · exact absurd h1381 (by decide)
    ·
      obtain ⟨eq2, hq2⟩ := gz_gq hyz
      obtain ⟨N9, hNN⟩ : ∃ N9, n * n2 = N9 := ⟨_, rfl⟩
      obtain ⟨dd, hdd⟩ : ∃ dd, d * d2 = dd := ⟨_, rfl⟩
      rcases Nat.lt_or_ge 8 N9 with h8 | h8
      ·
        refine r_aload_n C dL_law_1350 rfl 1 rfl ?_
        refine r_aload_n C dL_law_1351 rfl 0 rfl ?_
        refine r_iload C dL_law_1352 4 rfl ?_
        refine r_iconst C (nI 1) dL_law_1354 (by decide) ?_
        refine r_iadd C dL_law_1355 ?_
        refine r_topi (nI_add i9 1) ?_
        refine r_sld C hSc (by omega) hL dL_law_1356 ?_
        refine r_topi (w := nI q) p1 ?_
        refine r_aload_n C dL_law_1357 rfl 3 rfl ?_
        refine r_wcall C hN (u1 := 0) (nA := 3) (by omega) [.ref (ad 117), .int (nI q), .ref (ad 145)] (w_whyNotMultiply l D cs ad M (M.1 136) n d hg hn8 q hq ((hks q (by omega)).1.trans htk) (fun p => M.1 138 (55 * q + p)) n2 d2 hy hyz.2.2.1.2 hd4 hyz.2.2.2.1.2 N9 dd hNN hdd) (tt_W ml_L_171 st_L_whyNotMultiply in_L co_L_whyNotMultiply) ⟨by decide, by decide, by decide⟩ ⟨Nat.le_of_ble_eq_true rfl, Nat.le_of_ble_eq_true rfl⟩ rfl rfl (Nat.le_of_ble_eq_true rfl) dL_law_1358 (fun rw1 Mw qw => ?_)
        obtain ⟨rfl, v9, M9, hp9, hw9b⟩ := qw
        have e1 : Mw.1 = M9.1 := by rw [hw9b]; rfl
        have e2 : Mw.2 145 0 = v9.toInt64 := by rw [hw9b, mJ_eq, vL_e]
        obtain ⟨hvv, hc⟩ := hp9
        have eM : ∀ i, 135 ≤ i → Mw.1 i = M.1 i := fun i hi => by rw [e1]; exact (show ∀ i, 135 ≤ i → M9.1 i = M.1 i from eM_lk (lk_eq hc)) i hi
        have e136 : Mw.1 136 = M.1 136 := eM 136 (by decide)
        refine r_istore C [(5, .int (nI 0)), (0, .ref b9), (1, .ref (ad 117)), (2, .ref (ad 135)), (3, .ref (ad 145)), (4, .int (nI i9))] dL_law_1361 (by decide) rfl ?_
        refine r_aload_n C dL_law_1363 rfl 3 rfl ?_
        refine r_aload_n C dL_law_1364 rfl 1 rfl ?_
        refine r_iload C dL_law_1365 5 rfl ?_
        refine r_iconst C (nI 1) dL_law_1367 (by decide) ?_
        refine r_iadd C dL_law_1368 ?_
        refine r_topi (nI_add i9 1) ?_
        refine r_sld C hSc (by omega) hL dL_law_1369 ?_
        refine r_topi (w := nI q) p1 ?_
        refine r_callV_i (nA := 1) C (by omega) [.int (nI q)] (c_X8_whyNotMultiply1 l D cs ad Mw n (by rw [e136]; exact hz.1) hn8 d (by rw [e136]; exact hz.2.1) hd4 q n2 d2 hq (by rw [eM 138 (by decide)]; exact hyz.1) (by rw [eM 138 (by decide)]; exact hyz.2.1) hyz.2.2.1.2 hyz.2.2.2.1.2 N9 dd hNN hdd h8 (by rw [eM 139 (by decide)]; exact htk)) (tt_V ml_L_173 im_X8_whyNotMultiply se_X8_whyNotMultiply in_X8 co_X8_whyNotMultiply) ⟨rfl, rfl⟩ ⟨rfl, by decide, by decide, by decide⟩ ⟨Nat.le_of_ble_eq_true rfl, Nat.le_of_ble_eq_true rfl⟩ (by decide) rfl rfl rfl rfl rfl (Nat.le_of_ble_eq_true rfl) dL_law_1370 (fun ru1 Mu1 qu1 => ?_)
        obtain ⟨hr1, hm1⟩ := qu1
        have hS9 : Mu1.1 135 7 = nI 0 ∧ Mu1.2 145 0 = _ ∧ RR Mu1 := S_lk hX (lk_eq hc) e1 e2 (show SQ (mI Mw 135 7 (nI 0)) Mu1 by rw [hm1]; exact SQ.rf _)
        have hv9 : Mu1.2 145 0 = ru1.toInt64 := by rw [hS9.2.1, hvv, hr1]; congr 1; unfold rzI; rw [if_pos h8]
        refine r_istore C [(6, .int ru1), (5, .int (nI 0)), (0, .ref b9), (1, .ref (ad 117)), (2, .ref (ad 135)), (3, .ref (ad 145)), (4, .int (nI i9))] dL_law_1373 (by decide) rfl ?_
        refine r_aload_n C dL_law_1375 rfl 4 rfl ?_
        refine r_pcallV_i (nA := 0) C (by omega) [] (c_X8_thrown l D cs ad Mu1) (tt_V ml_L_98 im_X8_thrown se_X8_thrown in_X8 co_X8_thrown) ⟨rfl, rfl⟩ ⟨rfl, by decide, by decide, by decide⟩ ⟨Nat.le_of_ble_eq_true rfl, Nat.le_of_ble_eq_true rfl⟩ (by decide) rfl rfl rfl rfl rfl (Nat.le_of_ble_eq_true rfl) dL_law_1376 ?_
        refine r_topi (w := nI 0) hS9.1 ?_
        refine r_iload C dL_law_1379 1 rfl ?_
        refine r_icmpN_eq C 1386 dL_law_1381 (by decide) (by omega) (by omega) (fun h1381 => ?_) (fun h1381 => ?_)
        ·
          refine r_iload C dL_law_1386 1 rfl ?_
          refine r_if_ne C 1403 dL_law_1388 (by decide) (fun h1388 => ?_) (fun h1388 => ?_)
          · exact absurd rfl h1388
          ·
            refine r_aload_n C dL_law_1391 rfl 5 rfl ?_
            refine r_iconst C (nI 0) dL_law_1392 (by decide) ?_
            refine r_lald C (id := 145) (n := 1) (a := 0) (by decide) rfl (by decide) (by decide) dL_law_1393 ?_
            refine r_topl (w := ru1.toInt64) hv9 ?_
            refine r_iload C dL_law_1394 0 rfl ?_
            refine r_i2l C dL_law_1396 ?_
            refine r_lcmp C dL_law_1397 ?_
            refine r_if_eq C 1403 dL_law_1398 (by decide) (fun h1398 => ?_) (fun h1398 => ?_)
            ·
              rw [lgc_eq] at h1398
              refine r_goto C 1584 dL_law_1403 (by decide) ?_
              refine r_lv (lv2 := [(0, .ref b9), (1, .ref (ad 117)), (2, .ref (ad 135)), (3, .ref (ad 145)), (4, .int (nI i9))]) [2, 3, 4, 5, 6] rfl ?_
              exact k9 _ _ hS9.2.2 (by omega)
            · exact absurd (lgcT _) h1398
        · exact absurd h1381 (by decide)
      ·
        rcases Nat.lt_or_ge 4 dd with h4 | h4
        ·
          refine r_aload_n C dL_law_1350 rfl 1 rfl ?_
          refine r_aload_n C dL_law_1351 rfl 0 rfl ?_
          refine r_iload C dL_law_1352 4 rfl ?_
          refine r_iconst C (nI 1) dL_law_1354 (by decide) ?_
          refine r_iadd C dL_law_1355 ?_
          refine r_topi (nI_add i9 1) ?_
          refine r_sld C hSc (by omega) hL dL_law_1356 ?_
          refine r_topi (w := nI q) p1 ?_
          refine r_aload_n C dL_law_1357 rfl 3 rfl ?_
          refine r_wcall C hN (u1 := 0) (nA := 3) (by omega) [.ref (ad 117), .int (nI q), .ref (ad 145)] (w_whyNotMultiply l D cs ad M (M.1 136) n d hg hn8 q hq ((hks q (by omega)).1.trans htk) (fun p => M.1 138 (55 * q + p)) n2 d2 hy hyz.2.2.1.2 hd4 hyz.2.2.2.1.2 N9 dd hNN hdd) (tt_W ml_L_171 st_L_whyNotMultiply in_L co_L_whyNotMultiply) ⟨by decide, by decide, by decide⟩ ⟨Nat.le_of_ble_eq_true rfl, Nat.le_of_ble_eq_true rfl⟩ rfl rfl (Nat.le_of_ble_eq_true rfl) dL_law_1358 (fun rw1 Mw qw => ?_)
          obtain ⟨rfl, v9, M9, hp9, hw9b⟩ := qw
          have e1 : Mw.1 = M9.1 := by rw [hw9b]; rfl
          have e2 : Mw.2 145 0 = v9.toInt64 := by rw [hw9b, mJ_eq, vL_e]
          obtain ⟨hvv, hc⟩ := hp9
          have eM : ∀ i, 135 ≤ i → Mw.1 i = M.1 i := fun i hi => by rw [e1]; exact (show ∀ i, 135 ≤ i → M9.1 i = M.1 i from eM_lk (lk_eq hc)) i hi
          have e136 : Mw.1 136 = M.1 136 := eM 136 (by decide)
          refine r_istore C [(5, .int (nI 0)), (0, .ref b9), (1, .ref (ad 117)), (2, .ref (ad 135)), (3, .ref (ad 145)), (4, .int (nI i9))] dL_law_1361 (by decide) rfl ?_
          refine r_aload_n C dL_law_1363 rfl 3 rfl ?_
          refine r_aload_n C dL_law_1364 rfl 1 rfl ?_
          refine r_iload C dL_law_1365 5 rfl ?_
          refine r_iconst C (nI 1) dL_law_1367 (by decide) ?_
          refine r_iadd C dL_law_1368 ?_
          refine r_topi (nI_add i9 1) ?_
          refine r_sld C hSc (by omega) hL dL_law_1369 ?_
          refine r_topi (w := nI q) p1 ?_
          refine r_callV_i (nA := 1) C (by omega) [.int (nI q)] (c_X8_whyNotMultiply2 l D cs ad Mw n (by rw [e136]; exact hz.1) hn8 d (by rw [e136]; exact hz.2.1) hd4 q n2 d2 hq (by rw [eM 138 (by decide)]; exact hyz.1) (by rw [eM 138 (by decide)]; exact hyz.2.1) hyz.2.2.1.2 hyz.2.2.2.1.2 N9 dd hNN hdd h8 h4 (by rw [eM 139 (by decide)]; exact htk)) (tt_V ml_L_173 im_X8_whyNotMultiply se_X8_whyNotMultiply in_X8 co_X8_whyNotMultiply) ⟨rfl, rfl⟩ ⟨rfl, by decide, by decide, by decide⟩ ⟨Nat.le_of_ble_eq_true rfl, Nat.le_of_ble_eq_true rfl⟩ (by decide) rfl rfl rfl rfl rfl (Nat.le_of_ble_eq_true rfl) dL_law_1370 (fun ru1 Mu1 qu1 => ?_)
          obtain ⟨hr1, hm1⟩ := qu1
          have hS9 : Mu1.1 135 7 = nI 0 ∧ Mu1.2 145 0 = _ ∧ RR Mu1 := S_lk hX (lk_eq hc) e1 e2 (show SQ (mI Mw 135 7 (nI 0)) Mu1 by rw [hm1]; exact SQ.rf _)
          have hv9 : Mu1.2 145 0 = ru1.toInt64 := by rw [hS9.2.1, hvv, hr1]; congr 1; unfold rzI; rw [if_neg (by omega), if_pos h4]
          refine r_istore C [(6, .int ru1), (5, .int (nI 0)), (0, .ref b9), (1, .ref (ad 117)), (2, .ref (ad 135)), (3, .ref (ad 145)), (4, .int (nI i9))] dL_law_1373 (by decide) rfl ?_
          refine r_aload_n C dL_law_1375 rfl 4 rfl ?_
          refine r_pcallV_i (nA := 0) C (by omega) [] (c_X8_thrown l D cs ad Mu1) (tt_V ml_L_98 im_X8_thrown se_X8_thrown in_X8 co_X8_thrown) ⟨rfl, rfl⟩ ⟨rfl, by decide, by decide, by decide⟩ ⟨Nat.le_of_ble_eq_true rfl, Nat.le_of_ble_eq_true rfl⟩ (by decide) rfl rfl rfl rfl rfl (Nat.le_of_ble_eq_true rfl) dL_law_1376 ?_
          refine r_topi (w := nI 0) hS9.1 ?_
          refine r_iload C dL_law_1379 1 rfl ?_
          refine r_icmpN_eq C 1386 dL_law_1381 (by decide) (by omega) (by omega) (fun h1381 => ?_) (fun h1381 => ?_)
          ·
            refine r_iload C dL_law_1386 1 rfl ?_
            refine r_if_ne C 1403 dL_law_1388 (by decide) (fun h1388 => ?_) (fun h1388 => ?_)
            · exact absurd rfl h1388
            ·
              refine r_aload_n C dL_law_1391 rfl 5 rfl ?_
              refine r_iconst C (nI 0) dL_law_1392 (by decide) ?_
              refine r_lald C (id := 145) (n := 1) (a := 0) (by decide) rfl (by decide) (by decide) dL_law_1393 ?_
              refine r_topl (w := ru1.toInt64) hv9 ?_
              refine r_iload C dL_law_1394 0 rfl ?_
              refine r_i2l C dL_law_1396 ?_
              refine r_lcmp C dL_law_1397 ?_
              refine r_if_eq C 1403 dL_law_1398 (by decide) (fun h1398 => ?_) (fun h1398 => ?_)
              ·
                rw [lgc_eq] at h1398
                refine r_goto C 1584 dL_law_1403 (by decide) ?_
                refine r_lv (lv2 := [(0, .ref b9), (1, .ref (ad 117)), (2, .ref (ad 135)), (3, .ref (ad 145)), (4, .int (nI i9))]) [2, 3, 4, 5, 6] rfl ?_
                exact k9 _ _ hS9.2.2 (by omega)
              · exact absurd (lgcT _) h1398
          · exact absurd h1381 (by decide)
        ·
          refine r_aload_n C dL_law_1350 rfl 1 rfl ?_
          refine r_aload_n C dL_law_1351 rfl 0 rfl ?_
          refine r_iload C dL_law_1352 4 rfl ?_
          refine r_iconst C (nI 1) dL_law_1354 (by decide) ?_
          refine r_iadd C dL_law_1355 ?_
          refine r_topi (nI_add i9 1) ?_
          refine r_sld C hSc (by omega) hL dL_law_1356 ?_
          refine r_topi (w := nI q) p1 ?_
          refine r_aload_n C dL_law_1357 rfl 3 rfl ?_
          refine r_wcall C hN (u1 := 0) (nA := 3) (by omega) [.ref (ad 117), .int (nI q), .ref (ad 145)] (w_whyNotMultiply l D cs ad M (M.1 136) n d hg hn8 q hq ((hks q (by omega)).1.trans htk) (fun p => M.1 138 (55 * q + p)) n2 d2 hy hyz.2.2.1.2 hd4 hyz.2.2.2.1.2 N9 dd hNN hdd) (tt_W ml_L_171 st_L_whyNotMultiply in_L co_L_whyNotMultiply) ⟨by decide, by decide, by decide⟩ ⟨Nat.le_of_ble_eq_true rfl, Nat.le_of_ble_eq_true rfl⟩ rfl rfl (Nat.le_of_ble_eq_true rfl) dL_law_1358 (fun rw1 Mw qw => ?_)
          obtain ⟨rfl, v9, M9, hp9, hw9b⟩ := qw
          have e1 : Mw.1 = M9.1 := by rw [hw9b]; rfl
          have e2 : Mw.2 145 0 = v9.toInt64 := by rw [hw9b, mJ_eq, vL_e]
          obtain ⟨hvv, hc⟩ := hp9
          have eM : ∀ i, 135 ≤ i → Mw.1 i = M.1 i := fun i hi => by rw [e1]; exact (show ∀ i, 135 ≤ i → M9.1 i = M.1 i from eM_lk (lk_eq hc)) i hi
          have e136 : Mw.1 136 = M.1 136 := eM 136 (by decide)
          refine r_istore C [(5, .int (nI 0)), (0, .ref b9), (1, .ref (ad 117)), (2, .ref (ad 135)), (3, .ref (ad 145)), (4, .int (nI i9))] dL_law_1361 (by decide) rfl ?_
          refine r_aload_n C dL_law_1363 rfl 3 rfl ?_
          refine r_aload_n C dL_law_1364 rfl 1 rfl ?_
          refine r_iload C dL_law_1365 5 rfl ?_
          refine r_iconst C (nI 1) dL_law_1367 (by decide) ?_
          refine r_iadd C dL_law_1368 ?_
          refine r_topi (nI_add i9 1) ?_
          refine r_sld C hSc (by omega) hL dL_law_1369 ?_
          refine r_topi (w := nI q) p1 ?_
          refine r_callV_i (nA := 1) C (by omega) [.int (nI q)] (c_X8_whyNotMultiply3 l D cs ad Mw n (by rw [e136]; exact hz.1) hn8 d (by rw [e136]; exact hz.2.1) hd4 q n2 d2 hq (by rw [eM 138 (by decide)]; exact hyz.1) (by rw [eM 138 (by decide)]; exact hyz.2.1) hyz.2.2.1.2 hyz.2.2.2.1.2 N9 dd hNN hdd h8 h4 hn1 hyz.2.2.1.1 hd1 hyz.2.2.2.1.1 (by rw [eM 139 (by decide)]; exact htk)) (tt_V ml_L_173 im_X8_whyNotMultiply se_X8_whyNotMultiply in_X8 co_X8_whyNotMultiply) ⟨rfl, rfl⟩ ⟨rfl, by decide, by decide, by decide⟩ ⟨Nat.le_of_ble_eq_true rfl, Nat.le_of_ble_eq_true rfl⟩ (by decide) rfl rfl rfl rfl rfl (Nat.le_of_ble_eq_true rfl) dL_law_1370 (fun ru1 Mu1 qu1 => ?_)
          rw [e136, eM 138 (by decide)] at qu1
          obtain ⟨hr1, hm1⟩ := qu1
          have hS9 : Mu1.1 135 7 = nI 0 ∧ Mu1.2 145 0 = _ ∧ RR Mu1 := S_lk hX (lk_eq hc) e1 e2 (show SQ (mI Mw 135 7 (nI 0)) Mu1 by rw [hm1]; exact SQ.A (by decide))
          have hv9 : Mu1.2 145 0 = ru1.toInt64 := by rw [hS9.2.1, hvv, hr1, (rz_lpr hq0 hq2 hNN hdd h8 h4)]
          refine r_istore C [(6, .int ru1), (5, .int (nI 0)), (0, .ref b9), (1, .ref (ad 117)), (2, .ref (ad 135)), (3, .ref (ad 145)), (4, .int (nI i9))] dL_law_1373 (by decide) rfl ?_
          refine r_aload_n C dL_law_1375 rfl 4 rfl ?_
          refine r_pcallV_i (nA := 0) C (by omega) [] (c_X8_thrown l D cs ad Mu1) (tt_V ml_L_98 im_X8_thrown se_X8_thrown in_X8 co_X8_thrown) ⟨rfl, rfl⟩ ⟨rfl, by decide, by decide, by decide⟩ ⟨Nat.le_of_ble_eq_true rfl, Nat.le_of_ble_eq_true rfl⟩ (by decide) rfl rfl rfl rfl rfl (Nat.le_of_ble_eq_true rfl) dL_law_1376 ?_
          refine r_topi (w := nI 0) hS9.1 ?_
          refine r_iload C dL_law_1379 1 rfl ?_
          refine r_icmpN_eq C 1386 dL_law_1381 (by decide) (by omega) (by omega) (fun h1381 => ?_) (fun h1381 => ?_)
          ·
            refine r_iload C dL_law_1386 1 rfl ?_
            refine r_if_ne C 1403 dL_law_1388 (by decide) (fun h1388 => ?_) (fun h1388 => ?_)
            · exact absurd rfl h1388
            ·
              refine r_aload_n C dL_law_1391 rfl 5 rfl ?_
              refine r_iconst C (nI 0) dL_law_1392 (by decide) ?_
              refine r_lald C (id := 145) (n := 1) (a := 0) (by decide) rfl (by decide) (by decide) dL_law_1393 ?_
              refine r_topl (w := ru1.toInt64) hv9 ?_
              refine r_iload C dL_law_1394 0 rfl ?_
              refine r_i2l C dL_law_1396 ?_
              refine r_lcmp C dL_law_1397 ?_
              refine r_if_eq C 1403 dL_law_1398 (by decide) (fun h1398 => ?_) (fun h1398 => ?_)
              ·
                rw [lgc_eq] at h1398
                refine r_goto C 1584 dL_law_1403 (by decide) ?_
                refine r_lv (lv2 := [(0, .ref b9), (1, .ref (ad 117)), (2, .ref (ad 135)), (3, .ref (ad 145)), (4, .int (nI i9))]) [2, 3, 4, 5, 6] rfl ?_
                exact k9 _ _ hS9.2.2 (by omega)
              · exact absurd (lgcT _) h1398
          · exact absurd h1381 (by decide)
set_option maxRecDepth 100000 in
set_option maxHeartbeats 4000000 in
theorem LC_undo {l : Launch} {D : va_G} {cs : Nat → ClassId} {ad : Nat → Nat} {κ : Kx} {u U : Nat} {M : Mm} (C : CX D cs ad cL_law 9 RL 2048 84000 U κ) (hN : CN ad κ) (hfl : l.stackTraces = false) {b9 L i9 : Nat} {xs : Nat → Int32} (hSc : CSX ad b9 L xs κ) (hL : L ≤ 2048) (hj : i9 + 4 ≤ L) {s9 lt len n d : Nat} {ct : Nat → Nat} (hX : RX M s9 lt len ct n d) (hu : u + 1 ≤ U) (k9 : ∀ (u2 : Nat) (M2 : Mm), RR M2 → u2 ≤ u + 1 → VV l D cs ad 9 κ u2 M2 1584 [(0, .ref b9), (1, .ref (ad 117)), (2, .ref (ad 135)), (3, .ref (ad 145)), (4, .int (nI i9))] []) : VV l D cs ad 9 κ u M 1003 [(0, .ref b9), (1, .ref (ad 117)), (2, .ref (ad 135)), (3, .ref (ad 145)), (4, .int (nI i9))] [] := by
  obtain ⟨hz, hg, hpm, hks, hkh, hkt, hms, hml, htx⟩ := (show RX M s9 lt len ct n d from hX)
  obtain ⟨hzn, hzd, ⟨hn1, hn8⟩, ⟨hd1, hd4⟩, ⟨mk, hk⟩, hsy, hw9, hlb, hhb, hlz, hz0⟩ := (show gz (M.1 136) n d from hz)
  obtain ⟨hlt, hlt6, hs, hs6, hhi⟩ := (show KH M (fun j p => M.1 137 (55 * j + p)) s9 lt from hkh)
  obtain ⟨hlen, hl60, hct⟩ := (show KT M ct len from hkt)
  have hm := gk_gm hn8 hk
  obtain ⟨e0, hq0⟩ := gz_gq hz
  rcases Nat.eq_zero_or_pos s9 with hs0 | hs1
  ·
    subst hs0
    refine r_aload_n C dL_law_1003 rfl 1 rfl ?_
    refine r_aload_n C dL_law_1004 rfl 3 rfl ?_
    refine r_wcall C hN (u1 := 1) (nA := 2) (by omega) [.ref (ad 117), .ref (ad 145)] (w_undoX l D cs ad hfl M hs) (tt_W ml_L_153 st_L_undo in_L co_L_undo) ⟨by decide, by decide, by decide⟩ ⟨Nat.le_of_ble_eq_true rfl, Nat.le_of_ble_eq_true rfl⟩ rfl rfl (Nat.le_of_ble_eq_true rfl) dL_law_1005 (fun rw1 Mw qw => ?_)
    obtain ⟨rfl, hc⟩ := qw
    have e1 : Mw.1 = Mw.1 := rfl
    have e2 : Mw.2 145 0 = Mw.2 145 0 := rfl
    have eM : ∀ i, 135 ≤ i → Mw.1 i = M.1 i := eM_lk (lk_eq hc)
    have e136 : Mw.1 136 = M.1 136 := eM 136 (by decide)
    refine r_istore C [(5, .int (nI 1)), (0, .ref b9), (1, .ref (ad 117)), (2, .ref (ad 135)), (3, .ref (ad 145)), (4, .int (nI i9))] dL_law_1008 (by decide) rfl ?_
    refine r_aload_n C dL_law_1010 rfl 3 rfl ?_
    refine r_callV_i (nA := 0) C (by omega) [] (c_X8_undoX l D cs ad Mw (by rw [eM 135 (by decide)]; exact hms)) (tt_V ml_L_155 im_X8_undo se_X8_undo in_X8 co_X8_undo) ⟨rfl, rfl⟩ ⟨rfl, by decide, by decide, by decide⟩ ⟨Nat.le_of_ble_eq_true rfl, Nat.le_of_ble_eq_true rfl⟩ (by decide) rfl rfl rfl rfl rfl (Nat.le_of_ble_eq_true rfl) dL_law_1011 (fun ru1 Mu1 qu1 => ?_)
    obtain ⟨hr1, hm1⟩ := qu1
    have hS9 : Mu1.1 135 7 = nI 1 ∧ Mu1.2 145 0 = _ ∧ RR Mu1 := S_lk hX (lk_eq hc) e1 e2 (show SQ (mI Mw 135 7 (nI 1)) Mu1 by rw [hm1]; exact SQ.rf _)
    refine r_istore C [(6, .int ru1), (5, .int (nI 1)), (0, .ref b9), (1, .ref (ad 117)), (2, .ref (ad 135)), (3, .ref (ad 145)), (4, .int (nI i9))] dL_law_1014 (by decide) rfl ?_
    refine r_aload_n C dL_law_1016 rfl 4 rfl ?_
    refine r_pcallV_i (nA := 0) C (by omega) [] (c_X8_thrown l D cs ad Mu1) (tt_V ml_L_98 im_X8_thrown se_X8_thrown in_X8 co_X8_thrown) ⟨rfl, rfl⟩ ⟨rfl, by decide, by decide, by decide⟩ ⟨Nat.le_of_ble_eq_true rfl, Nat.le_of_ble_eq_true rfl⟩ (by decide) rfl rfl rfl rfl rfl (Nat.le_of_ble_eq_true rfl) dL_law_1017 ?_
    refine r_topi (w := nI 1) hS9.1 ?_
    refine r_iload C dL_law_1020 1 rfl ?_
    refine r_icmpN_eq C 1027 dL_law_1022 (by decide) (by omega) (by omega) (fun h1022 => ?_) (fun h1022 => ?_)
    ·
      refine r_iload C dL_law_1027 1 rfl ?_
      refine r_if_ne C 1044 dL_law_1029 (by decide) (fun h1029 => ?_) (fun h1029 => ?_)
      ·
        refine r_goto C 1584 dL_law_1044 (by decide) ?_
        refine r_lv (lv2 := [(0, .ref b9), (1, .ref (ad 117)), (2, .ref (ad 135)), (3, .ref (ad 145)), (4, .int (nI i9))]) [2, 3, 4, 5, 6] rfl ?_
        exact k9 _ _ hS9.2.2 (by omega)
      · exact absurd h1029 (by decide)
    · exact absurd h1022 (by decide)
  ·
    obtain ⟨⟨n2, d2, hyz, hy⟩, hpr⟩ := hhi (s9 - 1) (by omega)
    rw [rg_lt hlt6 hs1 hs6] at hy
    refine r_aload_n C dL_law_1003 rfl 1 rfl ?_
    refine r_aload_n C dL_law_1004 rfl 3 rfl ?_
    refine r_wcall C hN (u1 := 0) (nA := 2) (by omega) [.ref (ad 117), .ref (ad 145)] (w_undo l D cs ad M lt hlt hlt6 s9 hs hs6 hs1 (fun p => M.1 137 (55 * (s9 - 1) + p)) n2 d2 hy hyz.2.2.1.2) (tt_W ml_L_153 st_L_undo in_L co_L_undo) ⟨by decide, by decide, by decide⟩ ⟨Nat.le_of_ble_eq_true rfl, Nat.le_of_ble_eq_true rfl⟩ rfl rfl (Nat.le_of_ble_eq_true rfl) dL_law_1005 (fun rw1 Mw qw => ?_)
    obtain ⟨rfl, v9, M9, hp9, hw9b⟩ := qw
    have e1 : Mw.1 = M9.1 := by rw [hw9b]; rfl
    have e2 : Mw.2 145 0 = v9.toInt64 := by rw [hw9b, mJ_eq, vL_e]
    obtain ⟨hvv, M1, ho, hg3, hc⟩ := hp9
    have eM : ∀ i, 135 ≤ i → Mw.1 i = M.1 i := fun i hi => by rw [e1]; exact (show ∀ i, 135 ≤ i → M9.1 i = M.1 i from by rw [hc]; exact eM_un ho) i hi
    have e136 : Mw.1 136 = M.1 136 := eM 136 (by decide)
    refine r_istore C [(5, .int (nI 0)), (0, .ref b9), (1, .ref (ad 117)), (2, .ref (ad 135)), (3, .ref (ad 145)), (4, .int (nI i9))] dL_law_1008 (by decide) rfl ?_
    refine r_aload_n C dL_law_1010 rfl 3 rfl ?_
    refine r_callV_i (nA := 0) C (by omega) [] (c_X8_undo l D cs ad Mw (s9 - 1) (by rw [eM 135 (by decide), show s9 - 1 + 1 = s9 by omega]; exact hms) (by omega)) (tt_V ml_L_155 im_X8_undo se_X8_undo in_X8 co_X8_undo) ⟨rfl, rfl⟩ ⟨rfl, by decide, by decide, by decide⟩ ⟨Nat.le_of_ble_eq_true rfl, Nat.le_of_ble_eq_true rfl⟩ (by decide) rfl rfl rfl rfl rfl (Nat.le_of_ble_eq_true rfl) dL_law_1011 (fun ru1 Mu1 qu1 => ?_)
    obtain ⟨hr1, hm1⟩ := qu1
    have hS9 : Mu1.1 135 7 = nI 0 ∧ Mu1.2 145 0 = _ ∧ RR Mu1 := S_un hX hs1 hyz ho hg3 hc e1 e2 hm1
    have hv9 : Mu1.2 145 0 = ru1.toInt64 := by rw [hS9.2.1, hvv, hr1]
    refine r_istore C [(6, .int ru1), (5, .int (nI 0)), (0, .ref b9), (1, .ref (ad 117)), (2, .ref (ad 135)), (3, .ref (ad 145)), (4, .int (nI i9))] dL_law_1014 (by decide) rfl ?_
    refine r_aload_n C dL_law_1016 rfl 4 rfl ?_
    refine r_pcallV_i (nA := 0) C (by omega) [] (c_X8_thrown l D cs ad Mu1) (tt_V ml_L_98 im_X8_thrown se_X8_thrown in_X8 co_X8_thrown) ⟨rfl, rfl⟩ ⟨rfl, by decide, by decide, by decide⟩ ⟨Nat.le_of_ble_eq_true rfl, Nat.le_of_ble_eq_true rfl⟩ (by decide) rfl rfl rfl rfl rfl (Nat.le_of_ble_eq_true rfl) dL_law_1017 ?_
    refine r_topi (w := nI 0) hS9.1 ?_
    refine r_iload C dL_law_1020 1 rfl ?_
    refine r_icmpN_eq C 1027 dL_law_1022 (by decide) (by omega) (by omega) (fun h1022 => ?_) (fun h1022 => ?_)
    ·
      refine r_iload C dL_law_1027 1 rfl ?_
      refine r_if_ne C 1044 dL_law_1029 (by decide) (fun h1029 => ?_) (fun h1029 => ?_)
      · exact absurd rfl h1029
      ·
        refine r_aload_n C dL_law_1032 rfl 5 rfl ?_
        refine r_iconst C (nI 0) dL_law_1033 (by decide) ?_
        refine r_lald C (id := 145) (n := 1) (a := 0) (by decide) rfl (by decide) (by decide) dL_law_1034 ?_
        refine r_topl (w := ru1.toInt64) hv9 ?_
        refine r_iload C dL_law_1035 0 rfl ?_
        refine r_i2l C dL_law_1037 ?_
        refine r_lcmp C dL_law_1038 ?_
        refine r_if_eq C 1044 dL_law_1039 (by decide) (fun h1039 => ?_) (fun h1039 => ?_)
        ·
          rw [lgc_eq] at h1039
          refine r_goto C 1584 dL_law_1044 (by decide) ?_
          refine r_lv (lv2 := [(0, .ref b9), (1, .ref (ad 117)), (2, .ref (ad 135)), (3, .ref (ad 145)), (4, .int (nI i9))]) [2, 3, 4, 5, 6] rfl ?_
          exact k9 _ _ hS9.2.2 (by omega)
        · exact absurd (lgcT _) h1039
    · exact absurd h1022 (by decide)
set_option maxRecDepth 100000 in
set_option maxHeartbeats 4000000 in
theorem LC_joined {l : Launch} {D : va_G} {cs : Nat → ClassId} {ad : Nat → Nat} {κ : Kx} {u U : Nat} {M : Mm} (C : CX D cs ad cL_law 9 RL 2048 84000 U κ) (hN : CN ad κ) (hfl : l.stackTraces = false) {b9 L i9 : Nat} {xs : Nat → Int32} (hSc : CSX ad b9 L xs κ) (hL : L ≤ 2048) (hj : i9 + 4 ≤ L) {s9 lt len n d : Nat} {ct : Nat → Nat} (hX : RX M s9 lt len ct n d) (hu : u + 1 ≤ U) (k9 : ∀ (u2 : Nat) (M2 : Mm), RR M2 → u2 ≤ u + 1 → VV l D cs ad 9 κ u2 M2 1584 [(0, .ref b9), (1, .ref (ad 117)), (2, .ref (ad 135)), (3, .ref (ad 145)), (4, .int (nI i9))] []) : VV l D cs ad 9 κ u M 1047 [(0, .ref b9), (1, .ref (ad 117)), (2, .ref (ad 135)), (3, .ref (ad 145)), (4, .int (nI i9))] [] := by
  obtain ⟨hz, hg, hpm, hks, hkh, hkt, hms, hml, htx⟩ := (show RX M s9 lt len ct n d from hX)
  obtain ⟨hzn, hzd, ⟨hn1, hn8⟩, ⟨hd1, hd4⟩, ⟨mk, hk⟩, hsy, hw9, hlb, hhb, hlz, hz0⟩ := (show gz (M.1 136) n d from hz)
  obtain ⟨hlt, hlt6, hs, hs6, hhi⟩ := (show KH M (fun j p => M.1 137 (55 * j + p)) s9 lt from hkh)
  obtain ⟨hlen, hl60, hct⟩ := (show KT M ct len from hkt)
  have hm := gk_gm hn8 hk
  obtain ⟨e0, hq0⟩ := gz_gq hz
  cases w1 : (wit (xs (i9 + 1)) (nI 0) (nI n - nI 1)) with
  | false =>
    refine r_aload_n C dL_law_1047 rfl 1 rfl ?_
    refine r_aload_n C dL_law_1048 rfl 0 rfl ?_
    refine r_iload C dL_law_1049 4 rfl ?_
    refine r_iconst C (nI 1) dL_law_1051 (by decide) ?_
    refine r_iadd C dL_law_1052 ?_
    refine r_topi (nI_add i9 1) ?_
    refine r_sld C hSc (by omega) hL dL_law_1053 ?_
    refine r_aload_n C dL_law_1054 rfl 0 rfl ?_
    refine r_iload C dL_law_1055 4 rfl ?_
    refine r_iconst C (nI 2) dL_law_1057 (by decide) ?_
    refine r_iadd C dL_law_1058 ?_
    refine r_topi (nI_add i9 2) ?_
    refine r_sld C hSc (by omega) hL dL_law_1059 ?_
    refine r_aload_n C dL_law_1060 rfl 3 rfl ?_
    refine r_wcall C hN (u1 := 1) (nA := 4) (by omega) [.ref (ad 117), .int (xs (i9 + 1)), .int (xs (i9 + 2)), .ref (ad 145)] (w_joinedX1 l D cs ad hfl M (M.1 136) n d hg hn8 hn1 (xs (i9 + 1)) (xs (i9 + 2)) w1) (tt_W ml_L_156 st_L_joined in_L co_L_joined) ⟨by decide, by decide, by decide⟩ ⟨Nat.le_of_ble_eq_true rfl, Nat.le_of_ble_eq_true rfl⟩ rfl rfl (Nat.le_of_ble_eq_true rfl) dL_law_1061 (fun rw1 Mw qw => ?_)
    obtain ⟨rfl, hc⟩ := qw
    have e1 : Mw.1 = Mw.1 := rfl
    have e2 : Mw.2 145 0 = Mw.2 145 0 := rfl
    have eM : ∀ i, 135 ≤ i → Mw.1 i = M.1 i := eM_lk (lk_eq hc)
    have e136 : Mw.1 136 = M.1 136 := eM 136 (by decide)
    refine r_istore C [(5, .int (nI 1)), (0, .ref b9), (1, .ref (ad 117)), (2, .ref (ad 135)), (3, .ref (ad 145)), (4, .int (nI i9))] dL_law_1064 (by decide) rfl ?_
    refine r_aload_n C dL_law_1066 rfl 3 rfl ?_
    refine r_aload_n C dL_law_1067 rfl 1 rfl ?_
    refine r_iload C dL_law_1068 5 rfl ?_
    refine r_iconst C (nI 1) dL_law_1070 (by decide) ?_
    refine r_iadd C dL_law_1071 ?_
    refine r_topi (nI_add i9 1) ?_
    refine r_sld C hSc (by omega) hL dL_law_1072 ?_
    refine r_aload_n C dL_law_1073 rfl 1 rfl ?_
    refine r_iload C dL_law_1074 5 rfl ?_
    refine r_iconst C (nI 2) dL_law_1076 (by decide) ?_
    refine r_iadd C dL_law_1077 ?_
    refine r_topi (nI_add i9 2) ?_
    refine r_sld C hSc (by omega) hL dL_law_1078 ?_
    refine r_callV_i (nA := 2) C (by omega) [.int (xs (i9 + 1)), .int (xs (i9 + 2))] (c_X8_joinedX l D cs ad Mw n (by rw [e136]; exact hz.1) hn8 (xs (i9 + 1)) (xs (i9 + 2)) (by rw [w1]; rfl)) (tt_V ml_L_158 im_X8_joined se_X8_joined in_X8 co_X8_joined) ⟨rfl, rfl⟩ ⟨rfl, by decide, by decide, by decide⟩ ⟨Nat.le_of_ble_eq_true rfl, Nat.le_of_ble_eq_true rfl⟩ (by decide) rfl rfl rfl rfl rfl (Nat.le_of_ble_eq_true rfl) dL_law_1079 (fun ru1 Mu1 qu1 => ?_)
    obtain ⟨hr1, hm1⟩ := qu1
    have hS9 : Mu1.1 135 7 = nI 1 ∧ Mu1.2 145 0 = _ ∧ RR Mu1 := S_lk hX (lk_eq hc) e1 e2 (show SQ (mI Mw 135 7 (nI 1)) Mu1 by rw [hm1]; exact SQ.rf _)
    refine r_istore C [(6, .int ru1), (5, .int (nI 1)), (0, .ref b9), (1, .ref (ad 117)), (2, .ref (ad 135)), (3, .ref (ad 145)), (4, .int (nI i9))] dL_law_1082 (by decide) rfl ?_
    refine r_aload_n C dL_law_1084 rfl 4 rfl ?_
    refine r_pcallV_i (nA := 0) C (by omega) [] (c_X8_thrown l D cs ad Mu1) (tt_V ml_L_98 im_X8_thrown se_X8_thrown in_X8 co_X8_thrown) ⟨rfl, rfl⟩ ⟨rfl, by decide, by decide, by decide⟩ ⟨Nat.le_of_ble_eq_true rfl, Nat.le_of_ble_eq_true rfl⟩ (by decide) rfl rfl rfl rfl rfl (Nat.le_of_ble_eq_true rfl) dL_law_1085 ?_
    refine r_topi (w := nI 1) hS9.1 ?_
    refine r_iload C dL_law_1088 1 rfl ?_
    refine r_icmpN_eq C 1095 dL_law_1090 (by decide) (by omega) (by omega) (fun h1090 => ?_) (fun h1090 => ?_)
    ·
      refine r_iload C dL_law_1095 1 rfl ?_
      refine r_if_ne C 1112 dL_law_1097 (by decide) (fun h1097 => ?_) (fun h1097 => ?_)
      ·
        refine r_goto C 1584 dL_law_1112 (by decide) ?_
        refine r_lv (lv2 := [(0, .ref b9), (1, .ref (ad 117)), (2, .ref (ad 135)), (3, .ref (ad 145)), (4, .int (nI i9))]) [2, 3, 4, 5, 6] rfl ?_
        exact k9 _ _ hS9.2.2 (by omega)
      · exact absurd h1097 (by decide)
    · exact absurd h1090 (by decide)
  | true =>
    obtain ⟨a, ha, p1⟩ := wit_ex hn1 (by omega) w1
    cases w2 : (wit (xs (i9 + 2)) (nI 0) (nI n - nI 1)) with
    | false =>
      refine r_aload_n C dL_law_1047 rfl 1 rfl ?_
      refine r_aload_n C dL_law_1048 rfl 0 rfl ?_
      refine r_iload C dL_law_1049 4 rfl ?_
      refine r_iconst C (nI 1) dL_law_1051 (by decide) ?_
      refine r_iadd C dL_law_1052 ?_
      refine r_topi (nI_add i9 1) ?_
      refine r_sld C hSc (by omega) hL dL_law_1053 ?_
      refine r_topi (w := nI a) p1 ?_
      refine r_aload_n C dL_law_1054 rfl 0 rfl ?_
      refine r_iload C dL_law_1055 4 rfl ?_
      refine r_iconst C (nI 2) dL_law_1057 (by decide) ?_
      refine r_iadd C dL_law_1058 ?_
      refine r_topi (nI_add i9 2) ?_
      refine r_sld C hSc (by omega) hL dL_law_1059 ?_
      refine r_aload_n C dL_law_1060 rfl 3 rfl ?_
      refine r_wcall C hN (u1 := 1) (nA := 4) (by omega) [.ref (ad 117), .int (nI a), .int (xs (i9 + 2)), .ref (ad 145)] (w_joinedX2 l D cs ad hfl M (M.1 136) n d hg hn8 hn1 a ha (xs (i9 + 2)) w2) (tt_W ml_L_156 st_L_joined in_L co_L_joined) ⟨by decide, by decide, by decide⟩ ⟨Nat.le_of_ble_eq_true rfl, Nat.le_of_ble_eq_true rfl⟩ rfl rfl (Nat.le_of_ble_eq_true rfl) dL_law_1061 (fun rw1 Mw qw => ?_)
      obtain ⟨rfl, hc⟩ := qw
      have e1 : Mw.1 = Mw.1 := rfl
      have e2 : Mw.2 145 0 = Mw.2 145 0 := rfl
      have eM : ∀ i, 135 ≤ i → Mw.1 i = M.1 i := eM_lk (lk_eq hc)
      have e136 : Mw.1 136 = M.1 136 := eM 136 (by decide)
      refine r_istore C [(5, .int (nI 1)), (0, .ref b9), (1, .ref (ad 117)), (2, .ref (ad 135)), (3, .ref (ad 145)), (4, .int (nI i9))] dL_law_1064 (by decide) rfl ?_
      refine r_aload_n C dL_law_1066 rfl 3 rfl ?_
      refine r_aload_n C dL_law_1067 rfl 1 rfl ?_
      refine r_iload C dL_law_1068 5 rfl ?_
      refine r_iconst C (nI 1) dL_law_1070 (by decide) ?_
      refine r_iadd C dL_law_1071 ?_
      refine r_topi (nI_add i9 1) ?_
      refine r_sld C hSc (by omega) hL dL_law_1072 ?_
      refine r_topi (w := nI a) p1 ?_
      refine r_aload_n C dL_law_1073 rfl 1 rfl ?_
      refine r_iload C dL_law_1074 5 rfl ?_
      refine r_iconst C (nI 2) dL_law_1076 (by decide) ?_
      refine r_iadd C dL_law_1077 ?_
      refine r_topi (nI_add i9 2) ?_
      refine r_sld C hSc (by omega) hL dL_law_1078 ?_
      refine r_callV_i (nA := 2) C (by omega) [.int (nI a), .int (xs (i9 + 2))] (c_X8_joinedX l D cs ad Mw n (by rw [e136]; exact hz.1) hn8 (nI a) (xs (i9 + 2)) (by rw [w2, Bool.and_false])) (tt_V ml_L_158 im_X8_joined se_X8_joined in_X8 co_X8_joined) ⟨rfl, rfl⟩ ⟨rfl, by decide, by decide, by decide⟩ ⟨Nat.le_of_ble_eq_true rfl, Nat.le_of_ble_eq_true rfl⟩ (by decide) rfl rfl rfl rfl rfl (Nat.le_of_ble_eq_true rfl) dL_law_1079 (fun ru1 Mu1 qu1 => ?_)
      obtain ⟨hr1, hm1⟩ := qu1
      have hS9 : Mu1.1 135 7 = nI 1 ∧ Mu1.2 145 0 = _ ∧ RR Mu1 := S_lk hX (lk_eq hc) e1 e2 (show SQ (mI Mw 135 7 (nI 1)) Mu1 by rw [hm1]; exact SQ.rf _)
      refine r_istore C [(6, .int ru1), (5, .int (nI 1)), (0, .ref b9), (1, .ref (ad 117)), (2, .ref (ad 135)), (3, .ref (ad 145)), (4, .int (nI i9))] dL_law_1082 (by decide) rfl ?_
      refine r_aload_n C dL_law_1084 rfl 4 rfl ?_
      refine r_pcallV_i (nA := 0) C (by omega) [] (c_X8_thrown l D cs ad Mu1) (tt_V ml_L_98 im_X8_thrown se_X8_thrown in_X8 co_X8_thrown) ⟨rfl, rfl⟩ ⟨rfl, by decide, by decide, by decide⟩ ⟨Nat.le_of_ble_eq_true rfl, Nat.le_of_ble_eq_true rfl⟩ (by decide) rfl rfl rfl rfl rfl (Nat.le_of_ble_eq_true rfl) dL_law_1085 ?_
      refine r_topi (w := nI 1) hS9.1 ?_
      refine r_iload C dL_law_1088 1 rfl ?_
      refine r_icmpN_eq C 1095 dL_law_1090 (by decide) (by omega) (by omega) (fun h1090 => ?_) (fun h1090 => ?_)
      ·
        refine r_iload C dL_law_1095 1 rfl ?_
        refine r_if_ne C 1112 dL_law_1097 (by decide) (fun h1097 => ?_) (fun h1097 => ?_)
        ·
          refine r_goto C 1584 dL_law_1112 (by decide) ?_
          refine r_lv (lv2 := [(0, .ref b9), (1, .ref (ad 117)), (2, .ref (ad 135)), (3, .ref (ad 145)), (4, .int (nI i9))]) [2, 3, 4, 5, 6] rfl ?_
          exact k9 _ _ hS9.2.2 (by omega)
        · exact absurd h1097 (by decide)
      · exact absurd h1090 (by decide)
    | true =>
      obtain ⟨b, hb, p2⟩ := wit_ex hn1 (by omega) w2
      refine r_aload_n C dL_law_1047 rfl 1 rfl ?_
      refine r_aload_n C dL_law_1048 rfl 0 rfl ?_
      refine r_iload C dL_law_1049 4 rfl ?_
      refine r_iconst C (nI 1) dL_law_1051 (by decide) ?_
      refine r_iadd C dL_law_1052 ?_
      refine r_topi (nI_add i9 1) ?_
      refine r_sld C hSc (by omega) hL dL_law_1053 ?_
      refine r_topi (w := nI a) p1 ?_
      refine r_aload_n C dL_law_1054 rfl 0 rfl ?_
      refine r_iload C dL_law_1055 4 rfl ?_
      refine r_iconst C (nI 2) dL_law_1057 (by decide) ?_
      refine r_iadd C dL_law_1058 ?_
      refine r_topi (nI_add i9 2) ?_
      refine r_sld C hSc (by omega) hL dL_law_1059 ?_
      refine r_topi (w := nI b) p2 ?_
      refine r_aload_n C dL_law_1060 rfl 3 rfl ?_
      refine r_wcall C hN (u1 := 0) (nA := 4) (by omega) [.ref (ad 117), .int (nI a), .int (nI b), .ref (ad 145)] (w_joined l D cs ad M (M.1 136) n d hg hn8 hm a b ha hb) (tt_W ml_L_156 st_L_joined in_L co_L_joined) ⟨by decide, by decide, by decide⟩ ⟨Nat.le_of_ble_eq_true rfl, Nat.le_of_ble_eq_true rfl⟩ rfl rfl (Nat.le_of_ble_eq_true rfl) dL_law_1061 (fun rw1 Mw qw => ?_)
      obtain ⟨rfl, v9, M9, hp9, hw9b⟩ := qw
      have e1 : Mw.1 = M9.1 := by rw [hw9b]; rfl
      have e2 : Mw.2 145 0 = v9.toInt64 := by rw [hw9b, mJ_eq, vL_e]
      obtain ⟨hvv, hc⟩ := hp9
      have eM : ∀ i, 135 ≤ i → Mw.1 i = M.1 i := fun i hi => by rw [e1]; exact (show ∀ i, 135 ≤ i → M9.1 i = M.1 i from eM_lk (lk_eq hc)) i hi
      have e136 : Mw.1 136 = M.1 136 := eM 136 (by decide)
      refine r_istore C [(5, .int (nI 0)), (0, .ref b9), (1, .ref (ad 117)), (2, .ref (ad 135)), (3, .ref (ad 145)), (4, .int (nI i9))] dL_law_1064 (by decide) rfl ?_
      refine r_aload_n C dL_law_1066 rfl 3 rfl ?_
      refine r_aload_n C dL_law_1067 rfl 1 rfl ?_
      refine r_iload C dL_law_1068 5 rfl ?_
      refine r_iconst C (nI 1) dL_law_1070 (by decide) ?_
      refine r_iadd C dL_law_1071 ?_
      refine r_topi (nI_add i9 1) ?_
      refine r_sld C hSc (by omega) hL dL_law_1072 ?_
      refine r_topi (w := nI a) p1 ?_
      refine r_aload_n C dL_law_1073 rfl 1 rfl ?_
      refine r_iload C dL_law_1074 5 rfl ?_
      refine r_iconst C (nI 2) dL_law_1076 (by decide) ?_
      refine r_iadd C dL_law_1077 ?_
      refine r_topi (nI_add i9 2) ?_
      refine r_sld C hSc (by omega) hL dL_law_1078 ?_
      refine r_topi (w := nI b) p2 ?_
      refine r_callV_i (nA := 2) C (by omega) [.int (nI a), .int (nI b)] (c_X8_joined l D cs ad Mw n (by rw [e136]; exact hz.1) hn8 a b ha hb) (tt_V ml_L_158 im_X8_joined se_X8_joined in_X8 co_X8_joined) ⟨rfl, rfl⟩ ⟨rfl, by decide, by decide, by decide⟩ ⟨Nat.le_of_ble_eq_true rfl, Nat.le_of_ble_eq_true rfl⟩ (by decide) rfl rfl rfl rfl rfl (Nat.le_of_ble_eq_true rfl) dL_law_1079 (fun ru1 Mu1 qu1 => ?_)
      rw [e136] at qu1
      obtain ⟨hr1, hm1⟩ := qu1
      have hS9 : Mu1.1 135 7 = nI 0 ∧ Mu1.2 145 0 = _ ∧ RR Mu1 := S_lk hX (lk_eq hc) e1 e2 (show SQ (mI Mw 135 7 (nI 0)) Mu1 by rw [hm1]; exact SQ.rf _)
      have hv9 : Mu1.2 145 0 = ru1.toInt64 := by rw [hS9.2.1, hvv, hr1]
      refine r_istore C [(6, .int ru1), (5, .int (nI 0)), (0, .ref b9), (1, .ref (ad 117)), (2, .ref (ad 135)), (3, .ref (ad 145)), (4, .int (nI i9))] dL_law_1082 (by decide) rfl ?_
      refine r_aload_n C dL_law_1084 rfl 4 rfl ?_
      refine r_pcallV_i (nA := 0) C (by omega) [] (c_X8_thrown l D cs ad Mu1) (tt_V ml_L_98 im_X8_thrown se_X8_thrown in_X8 co_X8_thrown) ⟨rfl, rfl⟩ ⟨rfl, by decide, by decide, by decide⟩ ⟨Nat.le_of_ble_eq_true rfl, Nat.le_of_ble_eq_true rfl⟩ (by decide) rfl rfl rfl rfl rfl (Nat.le_of_ble_eq_true rfl) dL_law_1085 ?_
      refine r_topi (w := nI 0) hS9.1 ?_
      refine r_iload C dL_law_1088 1 rfl ?_
      refine r_icmpN_eq C 1095 dL_law_1090 (by decide) (by omega) (by omega) (fun h1090 => ?_) (fun h1090 => ?_)
      ·
        refine r_iload C dL_law_1095 1 rfl ?_
        refine r_if_ne C 1112 dL_law_1097 (by decide) (fun h1097 => ?_) (fun h1097 => ?_)
        · exact absurd rfl h1097
        ·
          refine r_aload_n C dL_law_1100 rfl 5 rfl ?_
          refine r_iconst C (nI 0) dL_law_1101 (by decide) ?_
          refine r_lald C (id := 145) (n := 1) (a := 0) (by decide) rfl (by decide) (by decide) dL_law_1102 ?_
          refine r_topl (w := ru1.toInt64) hv9 ?_
          refine r_iload C dL_law_1103 0 rfl ?_
          refine r_i2l C dL_law_1105 ?_
          refine r_lcmp C dL_law_1106 ?_
          refine r_if_eq C 1112 dL_law_1107 (by decide) (fun h1107 => ?_) (fun h1107 => ?_)
          ·
            rw [lgc_eq] at h1107
            refine r_goto C 1584 dL_law_1112 (by decide) ?_
            refine r_lv (lv2 := [(0, .ref b9), (1, .ref (ad 117)), (2, .ref (ad 135)), (3, .ref (ad 145)), (4, .int (nI i9))]) [2, 3, 4, 5, 6] rfl ?_
            exact k9 _ _ hS9.2.2 (by omega)
          · exact absurd (lgcT _) h1107
      · exact absurd h1090 (by decide)
set_option maxRecDepth 100000 in
set_option maxHeartbeats 4000000 in
theorem LC_vertex {l : Launch} {D : va_G} {cs : Nat → ClassId} {ad : Nat → Nat} {κ : Kx} {u U : Nat} {M : Mm} (C : CX D cs ad cL_law 9 RL 2048 84000 U κ) (hN : CN ad κ) (hfl : l.stackTraces = false) {b9 L i9 : Nat} {xs : Nat → Int32} (hSc : CSX ad b9 L xs κ) (hL : L ≤ 2048) (hj : i9 + 4 ≤ L) {s9 lt len n d : Nat} {ct : Nat → Nat} (hX : RX M s9 lt len ct n d) (hu : u + 1 ≤ U) (k9 : ∀ (u2 : Nat) (M2 : Mm), RR M2 → u2 ≤ u + 1 → VV l D cs ad 9 κ u2 M2 1584 [(0, .ref b9), (1, .ref (ad 117)), (2, .ref (ad 135)), (3, .ref (ad 145)), (4, .int (nI i9))] []) : VV l D cs ad 9 κ u M 1115 [(0, .ref b9), (1, .ref (ad 117)), (2, .ref (ad 135)), (3, .ref (ad 145)), (4, .int (nI i9))] [] := by
  obtain ⟨hz, hg, hpm, hks, hkh, hkt, hms, hml, htx⟩ := (show RX M s9 lt len ct n d from hX)
  obtain ⟨hzn, hzd, ⟨hn1, hn8⟩, ⟨hd1, hd4⟩, ⟨mk, hk⟩, hsy, hw9, hlb, hhb, hlz, hz0⟩ := (show gz (M.1 136) n d from hz)
  obtain ⟨hlt, hlt6, hs, hs6, hhi⟩ := (show KH M (fun j p => M.1 137 (55 * j + p)) s9 lt from hkh)
  obtain ⟨hlen, hl60, hct⟩ := (show KT M ct len from hkt)
  have hm := gk_gm hn8 hk
  obtain ⟨e0, hq0⟩ := gz_gq hz
  cases w1 : (wit (xs (i9 + 1)) (nI 0) (nI n - nI 1)) with
  | false =>
    refine r_aload_n C dL_law_1115 rfl 1 rfl ?_
    refine r_aload_n C dL_law_1116 rfl 0 rfl ?_
    refine r_iload C dL_law_1117 4 rfl ?_
    refine r_iconst C (nI 1) dL_law_1119 (by decide) ?_
    refine r_iadd C dL_law_1120 ?_
    refine r_topi (nI_add i9 1) ?_
    refine r_sld C hSc (by omega) hL dL_law_1121 ?_
    refine r_aload_n C dL_law_1122 rfl 0 rfl ?_
    refine r_iload C dL_law_1123 4 rfl ?_
    refine r_iconst C (nI 2) dL_law_1125 (by decide) ?_
    refine r_iadd C dL_law_1126 ?_
    refine r_topi (nI_add i9 2) ?_
    refine r_sld C hSc (by omega) hL dL_law_1127 ?_
    refine r_aload_n C dL_law_1128 rfl 3 rfl ?_
    refine r_wcall C hN (u1 := 1) (nA := 4) (by omega) [.ref (ad 117), .int (xs (i9 + 1)), .int (xs (i9 + 2)), .ref (ad 145)] (w_vertexX l D cs ad hfl M (M.1 136) n d hg hn8 hn1 (xs (i9 + 1)) (xs (i9 + 2)) w1) (tt_W ml_L_159 st_L_vertex in_L co_L_vertex) ⟨by decide, by decide, by decide⟩ ⟨Nat.le_of_ble_eq_true rfl, Nat.le_of_ble_eq_true rfl⟩ rfl rfl (Nat.le_of_ble_eq_true rfl) dL_law_1129 (fun rw1 Mw qw => ?_)
    obtain ⟨rfl, hc⟩ := qw
    have e1 : Mw.1 = Mw.1 := rfl
    have e2 : Mw.2 145 0 = Mw.2 145 0 := rfl
    have eM : ∀ i, 135 ≤ i → Mw.1 i = M.1 i := eM_lk (lk_eq hc)
    have e136 : Mw.1 136 = M.1 136 := eM 136 (by decide)
    refine r_istore C [(5, .int (nI 1)), (0, .ref b9), (1, .ref (ad 117)), (2, .ref (ad 135)), (3, .ref (ad 145)), (4, .int (nI i9))] dL_law_1132 (by decide) rfl ?_
    refine r_aload_n C dL_law_1134 rfl 3 rfl ?_
    refine r_aload_n C dL_law_1135 rfl 1 rfl ?_
    refine r_iload C dL_law_1136 5 rfl ?_
    refine r_iconst C (nI 1) dL_law_1138 (by decide) ?_
    refine r_iadd C dL_law_1139 ?_
    refine r_topi (nI_add i9 1) ?_
    refine r_sld C hSc (by omega) hL dL_law_1140 ?_
    refine r_aload_n C dL_law_1141 rfl 1 rfl ?_
    refine r_iload C dL_law_1142 5 rfl ?_
    refine r_iconst C (nI 2) dL_law_1144 (by decide) ?_
    refine r_iadd C dL_law_1145 ?_
    refine r_topi (nI_add i9 2) ?_
    refine r_sld C hSc (by omega) hL dL_law_1146 ?_
    refine r_callV_i (nA := 2) C (by omega) [.int (xs (i9 + 1)), .int (xs (i9 + 2))] (c_X8_vertexX l D cs ad Mw n (by rw [e136]; exact hz.1) hn8 (xs (i9 + 1)) (xs (i9 + 2)) w1) (tt_V ml_L_161 im_X8_vertex se_X8_vertex in_X8 co_X8_vertex) ⟨rfl, rfl⟩ ⟨rfl, by decide, by decide, by decide⟩ ⟨Nat.le_of_ble_eq_true rfl, Nat.le_of_ble_eq_true rfl⟩ (by decide) rfl rfl rfl rfl rfl (Nat.le_of_ble_eq_true rfl) dL_law_1147 (fun ru1 Mu1 qu1 => ?_)
    obtain ⟨hr1, hm1⟩ := qu1
    have hS9 : Mu1.1 135 7 = nI 1 ∧ Mu1.2 145 0 = _ ∧ RR Mu1 := S_lk hX (lk_eq hc) e1 e2 (show SQ (mI Mw 135 7 (nI 1)) Mu1 by rw [hm1]; exact SQ.rf _)
    refine r_istore C [(6, .int ru1), (5, .int (nI 1)), (0, .ref b9), (1, .ref (ad 117)), (2, .ref (ad 135)), (3, .ref (ad 145)), (4, .int (nI i9))] dL_law_1150 (by decide) rfl ?_
    refine r_aload_n C dL_law_1152 rfl 4 rfl ?_
    refine r_pcallV_i (nA := 0) C (by omega) [] (c_X8_thrown l D cs ad Mu1) (tt_V ml_L_98 im_X8_thrown se_X8_thrown in_X8 co_X8_thrown) ⟨rfl, rfl⟩ ⟨rfl, by decide, by decide, by decide⟩ ⟨Nat.le_of_ble_eq_true rfl, Nat.le_of_ble_eq_true rfl⟩ (by decide) rfl rfl rfl rfl rfl (Nat.le_of_ble_eq_true rfl) dL_law_1153 ?_
    refine r_topi (w := nI 1) hS9.1 ?_
    refine r_iload C dL_law_1156 1 rfl ?_
    refine r_icmpN_eq C 1163 dL_law_1158 (by decide) (by omega) (by omega) (fun h1158 => ?_) (fun h1158 => ?_)
    ·
      refine r_iload C dL_law_1163 1 rfl ?_
      refine r_if_ne C 1180 dL_law_1165 (by decide) (fun h1165 => ?_) (fun h1165 => ?_)
      ·
        refine r_goto C 1584 dL_law_1180 (by decide) ?_
        refine r_lv (lv2 := [(0, .ref b9), (1, .ref (ad 117)), (2, .ref (ad 135)), (3, .ref (ad 145)), (4, .int (nI i9))]) [2, 3, 4, 5, 6] rfl ?_
        exact k9 _ _ hS9.2.2 (by omega)
      · exact absurd h1165 (by decide)
    · exact absurd h1158 (by decide)
  | true =>
    obtain ⟨v, hv, p1⟩ := wit_ex hn1 (by omega) w1
    cases w2 : (wit (xs (i9 + 2)) (nI 0) (nI 5)) with
    | false =>
      cases w3 : (wit (xs (i9 + 2)) (nI 10) (nI 13)) with
      | false =>
        refine r_aload_n C dL_law_1115 rfl 1 rfl ?_
        refine r_aload_n C dL_law_1116 rfl 0 rfl ?_
        refine r_iload C dL_law_1117 4 rfl ?_
        refine r_iconst C (nI 1) dL_law_1119 (by decide) ?_
        refine r_iadd C dL_law_1120 ?_
        refine r_topi (nI_add i9 1) ?_
        refine r_sld C hSc (by omega) hL dL_law_1121 ?_
        refine r_topi (w := nI v) p1 ?_
        refine r_aload_n C dL_law_1122 rfl 0 rfl ?_
        refine r_iload C dL_law_1123 4 rfl ?_
        refine r_iconst C (nI 2) dL_law_1125 (by decide) ?_
        refine r_iadd C dL_law_1126 ?_
        refine r_topi (nI_add i9 2) ?_
        refine r_sld C hSc (by omega) hL dL_law_1127 ?_
        refine r_aload_n C dL_law_1128 rfl 3 rfl ?_
        refine r_wcall C hN (u1 := 1) (nA := 4) (by omega) [.ref (ad 117), .int (nI v), .int (xs (i9 + 2)), .ref (ad 145)] (w_vertexY l D cs ad hfl M (M.1 136) n d hg hn8 v hv (xs (i9 + 2)) w2 w3) (tt_W ml_L_159 st_L_vertex in_L co_L_vertex) ⟨by decide, by decide, by decide⟩ ⟨Nat.le_of_ble_eq_true rfl, Nat.le_of_ble_eq_true rfl⟩ rfl rfl (Nat.le_of_ble_eq_true rfl) dL_law_1129 (fun rw1 Mw qw => ?_)
        obtain ⟨rfl, hc⟩ := qw
        have e1 : Mw.1 = Mw.1 := rfl
        have e2 : Mw.2 145 0 = Mw.2 145 0 := rfl
        have eM : ∀ i, 135 ≤ i → Mw.1 i = M.1 i := eM_lk (lk_eq hc)
        have e136 : Mw.1 136 = M.1 136 := eM 136 (by decide)
        refine r_istore C [(5, .int (nI 2)), (0, .ref b9), (1, .ref (ad 117)), (2, .ref (ad 135)), (3, .ref (ad 145)), (4, .int (nI i9))] dL_law_1132 (by decide) rfl ?_
        refine r_aload_n C dL_law_1134 rfl 3 rfl ?_
        refine r_aload_n C dL_law_1135 rfl 1 rfl ?_
        refine r_iload C dL_law_1136 5 rfl ?_
        refine r_iconst C (nI 1) dL_law_1138 (by decide) ?_
        refine r_iadd C dL_law_1139 ?_
        refine r_topi (nI_add i9 1) ?_
        refine r_sld C hSc (by omega) hL dL_law_1140 ?_
        refine r_topi (w := nI v) p1 ?_
        refine r_aload_n C dL_law_1141 rfl 1 rfl ?_
        refine r_iload C dL_law_1142 5 rfl ?_
        refine r_iconst C (nI 2) dL_law_1144 (by decide) ?_
        refine r_iadd C dL_law_1145 ?_
        refine r_topi (nI_add i9 2) ?_
        refine r_sld C hSc (by omega) hL dL_law_1146 ?_
        refine r_callV_i (nA := 2) C (by omega) [.int (nI v), .int (xs (i9 + 2))] (c_X8_vertexY l D cs ad Mw n (by rw [e136]; exact hz.1) hn8 v (xs (i9 + 2)) hv w2 w3) (tt_V ml_L_161 im_X8_vertex se_X8_vertex in_X8 co_X8_vertex) ⟨rfl, rfl⟩ ⟨rfl, by decide, by decide, by decide⟩ ⟨Nat.le_of_ble_eq_true rfl, Nat.le_of_ble_eq_true rfl⟩ (by decide) rfl rfl rfl rfl rfl (Nat.le_of_ble_eq_true rfl) dL_law_1147 (fun ru1 Mu1 qu1 => ?_)
        obtain ⟨hr1, hm1⟩ := qu1
        have hS9 : Mu1.1 135 7 = nI 2 ∧ Mu1.2 145 0 = _ ∧ RR Mu1 := S_lk hX (lk_eq hc) e1 e2 (show SQ (mI Mw 135 7 (nI 2)) Mu1 by rw [hm1]; exact SQ.rf _)
        refine r_istore C [(6, .int ru1), (5, .int (nI 2)), (0, .ref b9), (1, .ref (ad 117)), (2, .ref (ad 135)), (3, .ref (ad 145)), (4, .int (nI i9))] dL_law_1150 (by decide) rfl ?_
        refine r_aload_n C dL_law_1152 rfl 4 rfl ?_
        refine r_pcallV_i (nA := 0) C (by omega) [] (c_X8_thrown l D cs ad Mu1) (tt_V ml_L_98 im_X8_thrown se_X8_thrown in_X8 co_X8_thrown) ⟨rfl, rfl⟩ ⟨rfl, by decide, by decide, by decide⟩ ⟨Nat.le_of_ble_eq_true rfl, Nat.le_of_ble_eq_true rfl⟩ (by decide) rfl rfl rfl rfl rfl (Nat.le_of_ble_eq_true rfl) dL_law_1153 ?_
        refine r_topi (w := nI 2) hS9.1 ?_
        refine r_iload C dL_law_1156 1 rfl ?_
        refine r_icmpN_eq C 1163 dL_law_1158 (by decide) (by omega) (by omega) (fun h1158 => ?_) (fun h1158 => ?_)
        ·
          refine r_iload C dL_law_1163 1 rfl ?_
          refine r_if_ne C 1180 dL_law_1165 (by decide) (fun h1165 => ?_) (fun h1165 => ?_)
          ·
            refine r_goto C 1584 dL_law_1180 (by decide) ?_
            refine r_lv (lv2 := [(0, .ref b9), (1, .ref (ad 117)), (2, .ref (ad 135)), (3, .ref (ad 145)), (4, .int (nI i9))]) [2, 3, 4, 5, 6] rfl ?_
            exact k9 _ _ hS9.2.2 (by omega)
          · exact absurd h1165 (by decide)
        · exact absurd h1158 (by decide)
      | true =>
        obtain ⟨w, hwa, hwb, p2⟩ := wit_rg (by decide) (by decide) w3
        have hw : w ≤ 5 ∨ (10 ≤ w ∧ w ≤ 13) := Or.inr ⟨hwa, hwb⟩
        refine r_aload_n C dL_law_1115 rfl 1 rfl ?_
        refine r_aload_n C dL_law_1116 rfl 0 rfl ?_
        refine r_iload C dL_law_1117 4 rfl ?_
        refine r_iconst C (nI 1) dL_law_1119 (by decide) ?_
        refine r_iadd C dL_law_1120 ?_
        refine r_topi (nI_add i9 1) ?_
        refine r_sld C hSc (by omega) hL dL_law_1121 ?_
        refine r_topi (w := nI v) p1 ?_
        refine r_aload_n C dL_law_1122 rfl 0 rfl ?_
        refine r_iload C dL_law_1123 4 rfl ?_
        refine r_iconst C (nI 2) dL_law_1125 (by decide) ?_
        refine r_iadd C dL_law_1126 ?_
        refine r_topi (nI_add i9 2) ?_
        refine r_sld C hSc (by omega) hL dL_law_1127 ?_
        refine r_topi (w := nI w) p2 ?_
        refine r_aload_n C dL_law_1128 rfl 3 rfl ?_
        refine r_wcall C hN (u1 := 0) (nA := 4) (by omega) [.ref (ad 117), .int (nI v), .int (nI w), .ref (ad 145)] (w_vertex l D cs ad M (M.1 136) n d hg hn8 hm mk (wtz (M.1 136)) hk hw9 hsy hn1 v w hv hw) (tt_W ml_L_159 st_L_vertex in_L co_L_vertex) ⟨by decide, by decide, by decide⟩ ⟨Nat.le_of_ble_eq_true rfl, Nat.le_of_ble_eq_true rfl⟩ rfl rfl (Nat.le_of_ble_eq_true rfl) dL_law_1129 (fun rw1 Mw qw => ?_)
        obtain ⟨rfl, v9, M9, hp9, hw9b⟩ := qw
        have e1 : Mw.1 = M9.1 := by rw [hw9b]; rfl
        have e2 : Mw.2 145 0 = v9.toInt64 := by rw [hw9b, mJ_eq, vL_e]
        obtain ⟨hvv, hc⟩ := hp9
        have eM : ∀ i, 135 ≤ i → Mw.1 i = M.1 i := fun i hi => by rw [e1]; exact (show ∀ i, 135 ≤ i → M9.1 i = M.1 i from eM_lk hc) i hi
        have e136 : Mw.1 136 = M.1 136 := eM 136 (by decide)
        refine r_istore C [(5, .int (nI 0)), (0, .ref b9), (1, .ref (ad 117)), (2, .ref (ad 135)), (3, .ref (ad 145)), (4, .int (nI i9))] dL_law_1132 (by decide) rfl ?_
        refine r_aload_n C dL_law_1134 rfl 3 rfl ?_
        refine r_aload_n C dL_law_1135 rfl 1 rfl ?_
        refine r_iload C dL_law_1136 5 rfl ?_
        refine r_iconst C (nI 1) dL_law_1138 (by decide) ?_
        refine r_iadd C dL_law_1139 ?_
        refine r_topi (nI_add i9 1) ?_
        refine r_sld C hSc (by omega) hL dL_law_1140 ?_
        refine r_topi (w := nI v) p1 ?_
        refine r_aload_n C dL_law_1141 rfl 1 rfl ?_
        refine r_iload C dL_law_1142 5 rfl ?_
        refine r_iconst C (nI 2) dL_law_1144 (by decide) ?_
        refine r_iadd C dL_law_1145 ?_
        refine r_topi (nI_add i9 2) ?_
        refine r_sld C hSc (by omega) hL dL_law_1146 ?_
        refine r_topi (w := nI w) p2 ?_
        refine r_callV_i (nA := 2) C (by omega) [.int (nI v), .int (nI w)] (c_X8_vertex l D cs ad Mw v w n (by rw [e136]; exact hz.1) hn8 hn1 (by rw [e136]; exact co_ex _ hn8 hn1) hv hw) (tt_V ml_L_161 im_X8_vertex se_X8_vertex in_X8 co_X8_vertex) ⟨rfl, rfl⟩ ⟨rfl, by decide, by decide, by decide⟩ ⟨Nat.le_of_ble_eq_true rfl, Nat.le_of_ble_eq_true rfl⟩ (by decide) rfl rfl rfl rfl rfl (Nat.le_of_ble_eq_true rfl) dL_law_1147 (fun ru1 Mu1 qu1 => ?_)
        rw [e136] at qu1
        obtain ⟨hr1, hm1⟩ := qu1
        have hS9 : Mu1.1 135 7 = nI 0 ∧ Mu1.2 145 0 = _ ∧ RR Mu1 := S_lk hX hc e1 e2 (SQ.S hm1)
        have hv9 : Mu1.2 145 0 = ru1.toInt64 := by rw [hS9.2.1, hvv, hr1]
        refine r_istore C [(6, .int ru1), (5, .int (nI 0)), (0, .ref b9), (1, .ref (ad 117)), (2, .ref (ad 135)), (3, .ref (ad 145)), (4, .int (nI i9))] dL_law_1150 (by decide) rfl ?_
        refine r_aload_n C dL_law_1152 rfl 4 rfl ?_
        refine r_pcallV_i (nA := 0) C (by omega) [] (c_X8_thrown l D cs ad Mu1) (tt_V ml_L_98 im_X8_thrown se_X8_thrown in_X8 co_X8_thrown) ⟨rfl, rfl⟩ ⟨rfl, by decide, by decide, by decide⟩ ⟨Nat.le_of_ble_eq_true rfl, Nat.le_of_ble_eq_true rfl⟩ (by decide) rfl rfl rfl rfl rfl (Nat.le_of_ble_eq_true rfl) dL_law_1153 ?_
        refine r_topi (w := nI 0) hS9.1 ?_
        refine r_iload C dL_law_1156 1 rfl ?_
        refine r_icmpN_eq C 1163 dL_law_1158 (by decide) (by omega) (by omega) (fun h1158 => ?_) (fun h1158 => ?_)
        ·
          refine r_iload C dL_law_1163 1 rfl ?_
          refine r_if_ne C 1180 dL_law_1165 (by decide) (fun h1165 => ?_) (fun h1165 => ?_)
          · exact absurd rfl h1165
          ·
            refine r_aload_n C dL_law_1168 rfl 5 rfl ?_
            refine r_iconst C (nI 0) dL_law_1169 (by decide) ?_
            refine r_lald C (id := 145) (n := 1) (a := 0) (by decide) rfl (by decide) (by decide) dL_law_1170 ?_
            refine r_topl (w := ru1.toInt64) hv9 ?_
            refine r_iload C dL_law_1171 0 rfl ?_
            refine r_i2l C dL_law_1173 ?_
            refine r_lcmp C dL_law_1174 ?_
            refine r_if_eq C 1180 dL_law_1175 (by decide) (fun h1175 => ?_) (fun h1175 => ?_)
            ·
              rw [lgc_eq] at h1175
              refine r_goto C 1584 dL_law_1180 (by decide) ?_
              refine r_lv (lv2 := [(0, .ref b9), (1, .ref (ad 117)), (2, .ref (ad 135)), (3, .ref (ad 145)), (4, .int (nI i9))]) [2, 3, 4, 5, 6] rfl ?_
              exact k9 _ _ hS9.2.2 (by omega)
            · exact absurd (lgcT _) h1175
        · exact absurd h1158 (by decide)
    | true =>
      obtain ⟨w, -, hwb, p2⟩ := wit_rg (by decide) (by decide) w2
      have hw : w ≤ 5 ∨ (10 ≤ w ∧ w ≤ 13) := Or.inl hwb
      refine r_aload_n C dL_law_1115 rfl 1 rfl ?_
      refine r_aload_n C dL_law_1116 rfl 0 rfl ?_
      refine r_iload C dL_law_1117 4 rfl ?_
      refine r_iconst C (nI 1) dL_law_1119 (by decide) ?_
      refine r_iadd C dL_law_1120 ?_
      refine r_topi (nI_add i9 1) ?_
      refine r_sld C hSc (by omega) hL dL_law_1121 ?_
      refine r_topi (w := nI v) p1 ?_
      refine r_aload_n C dL_law_1122 rfl 0 rfl ?_
      refine r_iload C dL_law_1123 4 rfl ?_
      refine r_iconst C (nI 2) dL_law_1125 (by decide) ?_
      refine r_iadd C dL_law_1126 ?_
      refine r_topi (nI_add i9 2) ?_
      refine r_sld C hSc (by omega) hL dL_law_1127 ?_
      refine r_topi (w := nI w) p2 ?_
      refine r_aload_n C dL_law_1128 rfl 3 rfl ?_
      refine r_wcall C hN (u1 := 0) (nA := 4) (by omega) [.ref (ad 117), .int (nI v), .int (nI w), .ref (ad 145)] (w_vertex l D cs ad M (M.1 136) n d hg hn8 hm mk (wtz (M.1 136)) hk hw9 hsy hn1 v w hv hw) (tt_W ml_L_159 st_L_vertex in_L co_L_vertex) ⟨by decide, by decide, by decide⟩ ⟨Nat.le_of_ble_eq_true rfl, Nat.le_of_ble_eq_true rfl⟩ rfl rfl (Nat.le_of_ble_eq_true rfl) dL_law_1129 (fun rw1 Mw qw => ?_)
      obtain ⟨rfl, v9, M9, hp9, hw9b⟩ := qw
      have e1 : Mw.1 = M9.1 := by rw [hw9b]; rfl
      have e2 : Mw.2 145 0 = v9.toInt64 := by rw [hw9b, mJ_eq, vL_e]
      obtain ⟨hvv, hc⟩ := hp9
      have eM : ∀ i, 135 ≤ i → Mw.1 i = M.1 i := fun i hi => by rw [e1]; exact (show ∀ i, 135 ≤ i → M9.1 i = M.1 i from eM_lk hc) i hi
      have e136 : Mw.1 136 = M.1 136 := eM 136 (by decide)
      refine r_istore C [(5, .int (nI 0)), (0, .ref b9), (1, .ref (ad 117)), (2, .ref (ad 135)), (3, .ref (ad 145)), (4, .int (nI i9))] dL_law_1132 (by decide) rfl ?_
      refine r_aload_n C dL_law_1134 rfl 3 rfl ?_
      refine r_aload_n C dL_law_1135 rfl 1 rfl ?_
      refine r_iload C dL_law_1136 5 rfl ?_
      refine r_iconst C (nI 1) dL_law_1138 (by decide) ?_
      refine r_iadd C dL_law_1139 ?_
      refine r_topi (nI_add i9 1) ?_
      refine r_sld C hSc (by omega) hL dL_law_1140 ?_
      refine r_topi (w := nI v) p1 ?_
      refine r_aload_n C dL_law_1141 rfl 1 rfl ?_
      refine r_iload C dL_law_1142 5 rfl ?_
      refine r_iconst C (nI 2) dL_law_1144 (by decide) ?_
      refine r_iadd C dL_law_1145 ?_
      refine r_topi (nI_add i9 2) ?_
      refine r_sld C hSc (by omega) hL dL_law_1146 ?_
      refine r_topi (w := nI w) p2 ?_
      refine r_callV_i (nA := 2) C (by omega) [.int (nI v), .int (nI w)] (c_X8_vertex l D cs ad Mw v w n (by rw [e136]; exact hz.1) hn8 hn1 (by rw [e136]; exact co_ex _ hn8 hn1) hv hw) (tt_V ml_L_161 im_X8_vertex se_X8_vertex in_X8 co_X8_vertex) ⟨rfl, rfl⟩ ⟨rfl, by decide, by decide, by decide⟩ ⟨Nat.le_of_ble_eq_true rfl, Nat.le_of_ble_eq_true rfl⟩ (by decide) rfl rfl rfl rfl rfl (Nat.le_of_ble_eq_true rfl) dL_law_1147 (fun ru1 Mu1 qu1 => ?_)
      rw [e136] at qu1
      obtain ⟨hr1, hm1⟩ := qu1
      have hS9 : Mu1.1 135 7 = nI 0 ∧ Mu1.2 145 0 = _ ∧ RR Mu1 := S_lk hX hc e1 e2 (SQ.S hm1)
      have hv9 : Mu1.2 145 0 = ru1.toInt64 := by rw [hS9.2.1, hvv, hr1]
      refine r_istore C [(6, .int ru1), (5, .int (nI 0)), (0, .ref b9), (1, .ref (ad 117)), (2, .ref (ad 135)), (3, .ref (ad 145)), (4, .int (nI i9))] dL_law_1150 (by decide) rfl ?_
      refine r_aload_n C dL_law_1152 rfl 4 rfl ?_
      refine r_pcallV_i (nA := 0) C (by omega) [] (c_X8_thrown l D cs ad Mu1) (tt_V ml_L_98 im_X8_thrown se_X8_thrown in_X8 co_X8_thrown) ⟨rfl, rfl⟩ ⟨rfl, by decide, by decide, by decide⟩ ⟨Nat.le_of_ble_eq_true rfl, Nat.le_of_ble_eq_true rfl⟩ (by decide) rfl rfl rfl rfl rfl (Nat.le_of_ble_eq_true rfl) dL_law_1153 ?_
      refine r_topi (w := nI 0) hS9.1 ?_
      refine r_iload C dL_law_1156 1 rfl ?_
      refine r_icmpN_eq C 1163 dL_law_1158 (by decide) (by omega) (by omega) (fun h1158 => ?_) (fun h1158 => ?_)
      ·
        refine r_iload C dL_law_1163 1 rfl ?_
        refine r_if_ne C 1180 dL_law_1165 (by decide) (fun h1165 => ?_) (fun h1165 => ?_)
        · exact absurd rfl h1165
        ·
          refine r_aload_n C dL_law_1168 rfl 5 rfl ?_
          refine r_iconst C (nI 0) dL_law_1169 (by decide) ?_
          refine r_lald C (id := 145) (n := 1) (a := 0) (by decide) rfl (by decide) (by decide) dL_law_1170 ?_
          refine r_topl (w := ru1.toInt64) hv9 ?_
          refine r_iload C dL_law_1171 0 rfl ?_
          refine r_i2l C dL_law_1173 ?_
          refine r_lcmp C dL_law_1174 ?_
          refine r_if_eq C 1180 dL_law_1175 (by decide) (fun h1175 => ?_) (fun h1175 => ?_)
          ·
            rw [lgc_eq] at h1175
            refine r_goto C 1584 dL_law_1180 (by decide) ?_
            refine r_lv (lv2 := [(0, .ref b9), (1, .ref (ad 117)), (2, .ref (ad 135)), (3, .ref (ad 145)), (4, .int (nI i9))]) [2, 3, 4, 5, 6] rfl ?_
            exact k9 _ _ hS9.2.2 (by omega)
          · exact absurd (lgcT _) h1175
      · exact absurd h1158 (by decide)
set_option maxRecDepth 100000 in
set_option maxHeartbeats 4000000 in
theorem LC_handle {l : Launch} {D : va_G} {cs : Nat → ClassId} {ad : Nat → Nat} {κ : Kx} {u U : Nat} {M : Mm} (C : CX D cs ad cL_law 9 RL 2048 84000 U κ) (hN : CN ad κ) (hfl : l.stackTraces = false) {b9 L i9 : Nat} {xs : Nat → Int32} (hSc : CSX ad b9 L xs κ) (hL : L ≤ 2048) (hj : i9 + 4 ≤ L) {s9 lt len n d : Nat} {ct : Nat → Nat} (hX : RX M s9 lt len ct n d) (hu : u + 1 ≤ U) (k9 : ∀ (u2 : Nat) (M2 : Mm), RR M2 → u2 ≤ u + 1 → VV l D cs ad 9 κ u2 M2 1584 [(0, .ref b9), (1, .ref (ad 117)), (2, .ref (ad 135)), (3, .ref (ad 145)), (4, .int (nI i9))] []) : VV l D cs ad 9 κ u M 1183 [(0, .ref b9), (1, .ref (ad 117)), (2, .ref (ad 135)), (3, .ref (ad 145)), (4, .int (nI i9))] [] := by
  obtain ⟨hz, hg, hpm, hks, hkh, hkt, hms, hml, htx⟩ := (show RX M s9 lt len ct n d from hX)
  obtain ⟨hzn, hzd, ⟨hn1, hn8⟩, ⟨hd1, hd4⟩, ⟨mk, hk⟩, hsy, hw9, hlb, hhb, hlz, hz0⟩ := (show gz (M.1 136) n d from hz)
  obtain ⟨hlt, hlt6, hs, hs6, hhi⟩ := (show KH M (fun j p => M.1 137 (55 * j + p)) s9 lt from hkh)
  obtain ⟨hlen, hl60, hct⟩ := (show KT M ct len from hkt)
  have hm := gk_gm hn8 hk
  obtain ⟨e0, hq0⟩ := gz_gq hz
  cases w1 : (wit (xs (i9 + 1)) (nI 0) (nI d - nI 1)) with
  | false =>
    refine r_aload_n C dL_law_1183 rfl 1 rfl ?_
    refine r_aload_n C dL_law_1184 rfl 0 rfl ?_
    refine r_iload C dL_law_1185 4 rfl ?_
    refine r_iconst C (nI 1) dL_law_1187 (by decide) ?_
    refine r_iadd C dL_law_1188 ?_
    refine r_topi (nI_add i9 1) ?_
    refine r_sld C hSc (by omega) hL dL_law_1189 ?_
    refine r_aload_n C dL_law_1190 rfl 3 rfl ?_
    refine r_wcall C hN (u1 := 1) (nA := 3) (by omega) [.ref (ad 117), .int (xs (i9 + 1)), .ref (ad 145)] (w_handleX l D cs ad hfl M (M.1 136) n d hg hn8 hd4 hd1 (xs (i9 + 1)) w1) (tt_W ml_L_162 st_L_handle in_L co_L_handle) ⟨by decide, by decide, by decide⟩ ⟨Nat.le_of_ble_eq_true rfl, Nat.le_of_ble_eq_true rfl⟩ rfl rfl (Nat.le_of_ble_eq_true rfl) dL_law_1191 (fun rw1 Mw qw => ?_)
    obtain ⟨rfl, hc⟩ := qw
    have e1 : Mw.1 = Mw.1 := rfl
    have e2 : Mw.2 145 0 = Mw.2 145 0 := rfl
    have eM : ∀ i, 135 ≤ i → Mw.1 i = M.1 i := eM_lk (lk_eq hc)
    have e136 : Mw.1 136 = M.1 136 := eM 136 (by decide)
    refine r_istore C [(5, .int (nI 1)), (0, .ref b9), (1, .ref (ad 117)), (2, .ref (ad 135)), (3, .ref (ad 145)), (4, .int (nI i9))] dL_law_1194 (by decide) rfl ?_
    refine r_aload_n C dL_law_1196 rfl 3 rfl ?_
    refine r_aload_n C dL_law_1197 rfl 1 rfl ?_
    refine r_iload C dL_law_1198 5 rfl ?_
    refine r_iconst C (nI 1) dL_law_1200 (by decide) ?_
    refine r_iadd C dL_law_1201 ?_
    refine r_topi (nI_add i9 1) ?_
    refine r_sld C hSc (by omega) hL dL_law_1202 ?_
    refine r_callV_i (nA := 1) C (by omega) [.int (xs (i9 + 1))] (c_X8_handleX l D cs ad Mw d (by rw [e136]; exact hz.2.1) hd4 (xs (i9 + 1)) w1) (tt_V ml_L_164 im_X8_handle se_X8_handle in_X8 co_X8_handle) ⟨rfl, rfl⟩ ⟨rfl, by decide, by decide, by decide⟩ ⟨Nat.le_of_ble_eq_true rfl, Nat.le_of_ble_eq_true rfl⟩ (by decide) rfl rfl rfl rfl rfl (Nat.le_of_ble_eq_true rfl) dL_law_1203 (fun ru1 Mu1 qu1 => ?_)
    obtain ⟨hr1, hm1⟩ := qu1
    have hS9 : Mu1.1 135 7 = nI 1 ∧ Mu1.2 145 0 = _ ∧ RR Mu1 := S_lk hX (lk_eq hc) e1 e2 (show SQ (mI Mw 135 7 (nI 1)) Mu1 by rw [hm1]; exact SQ.rf _)
    refine r_istore C [(6, .int ru1), (5, .int (nI 1)), (0, .ref b9), (1, .ref (ad 117)), (2, .ref (ad 135)), (3, .ref (ad 145)), (4, .int (nI i9))] dL_law_1206 (by decide) rfl ?_
    refine r_aload_n C dL_law_1208 rfl 4 rfl ?_
    refine r_pcallV_i (nA := 0) C (by omega) [] (c_X8_thrown l D cs ad Mu1) (tt_V ml_L_98 im_X8_thrown se_X8_thrown in_X8 co_X8_thrown) ⟨rfl, rfl⟩ ⟨rfl, by decide, by decide, by decide⟩ ⟨Nat.le_of_ble_eq_true rfl, Nat.le_of_ble_eq_true rfl⟩ (by decide) rfl rfl rfl rfl rfl (Nat.le_of_ble_eq_true rfl) dL_law_1209 ?_
    refine r_topi (w := nI 1) hS9.1 ?_
    refine r_iload C dL_law_1212 1 rfl ?_
    refine r_icmpN_eq C 1219 dL_law_1214 (by decide) (by omega) (by omega) (fun h1214 => ?_) (fun h1214 => ?_)
    ·
      refine r_iload C dL_law_1219 1 rfl ?_
      refine r_if_ne C 1236 dL_law_1221 (by decide) (fun h1221 => ?_) (fun h1221 => ?_)
      ·
        refine r_goto C 1584 dL_law_1236 (by decide) ?_
        refine r_lv (lv2 := [(0, .ref b9), (1, .ref (ad 117)), (2, .ref (ad 135)), (3, .ref (ad 145)), (4, .int (nI i9))]) [2, 3, 4, 5, 6] rfl ?_
        exact k9 _ _ hS9.2.2 (by omega)
      · exact absurd h1221 (by decide)
    · exact absurd h1214 (by decide)
  | true =>
    obtain ⟨p, hp, p1⟩ := wit_ex hd1 (by omega) w1
    refine r_aload_n C dL_law_1183 rfl 1 rfl ?_
    refine r_aload_n C dL_law_1184 rfl 0 rfl ?_
    refine r_iload C dL_law_1185 4 rfl ?_
    refine r_iconst C (nI 1) dL_law_1187 (by decide) ?_
    refine r_iadd C dL_law_1188 ?_
    refine r_topi (nI_add i9 1) ?_
    refine r_sld C hSc (by omega) hL dL_law_1189 ?_
    refine r_topi (w := nI p) p1 ?_
    refine r_aload_n C dL_law_1190 rfl 3 rfl ?_
    refine r_wcall C hN (u1 := 0) (nA := 3) (by omega) [.ref (ad 117), .int (nI p), .ref (ad 145)] (w_handle l D cs ad M (M.1 136) n d hg hn8 hd4 p hp) (tt_W ml_L_162 st_L_handle in_L co_L_handle) ⟨by decide, by decide, by decide⟩ ⟨Nat.le_of_ble_eq_true rfl, Nat.le_of_ble_eq_true rfl⟩ rfl rfl (Nat.le_of_ble_eq_true rfl) dL_law_1191 (fun rw1 Mw qw => ?_)
    obtain ⟨rfl, v9, M9, hp9, hw9b⟩ := qw
    have e1 : Mw.1 = M9.1 := by rw [hw9b]; rfl
    have e2 : Mw.2 145 0 = v9.toInt64 := by rw [hw9b, mJ_eq, vL_e]
    obtain ⟨hvv, hc⟩ := hp9
    have eM : ∀ i, 135 ≤ i → Mw.1 i = M.1 i := fun i hi => by rw [e1]; exact (show ∀ i, 135 ≤ i → M9.1 i = M.1 i from eM_lk (lk_eq hc)) i hi
    have e136 : Mw.1 136 = M.1 136 := eM 136 (by decide)
    refine r_istore C [(5, .int (nI 0)), (0, .ref b9), (1, .ref (ad 117)), (2, .ref (ad 135)), (3, .ref (ad 145)), (4, .int (nI i9))] dL_law_1194 (by decide) rfl ?_
    refine r_aload_n C dL_law_1196 rfl 3 rfl ?_
    refine r_aload_n C dL_law_1197 rfl 1 rfl ?_
    refine r_iload C dL_law_1198 5 rfl ?_
    refine r_iconst C (nI 1) dL_law_1200 (by decide) ?_
    refine r_iadd C dL_law_1201 ?_
    refine r_topi (nI_add i9 1) ?_
    refine r_sld C hSc (by omega) hL dL_law_1202 ?_
    refine r_topi (w := nI p) p1 ?_
    refine r_callV_i (nA := 1) C (by omega) [.int (nI p)] (c_X8_handle l D cs ad Mw d (by rw [e136]; exact hz.2.1) hd4 p hp) (tt_V ml_L_164 im_X8_handle se_X8_handle in_X8 co_X8_handle) ⟨rfl, rfl⟩ ⟨rfl, by decide, by decide, by decide⟩ ⟨Nat.le_of_ble_eq_true rfl, Nat.le_of_ble_eq_true rfl⟩ (by decide) rfl rfl rfl rfl rfl (Nat.le_of_ble_eq_true rfl) dL_law_1203 (fun ru1 Mu1 qu1 => ?_)
    rw [e136] at qu1
    obtain ⟨hr1, hm1⟩ := qu1
    have hS9 : Mu1.1 135 7 = nI 0 ∧ Mu1.2 145 0 = _ ∧ RR Mu1 := S_lk hX (lk_eq hc) e1 e2 (show SQ (mI Mw 135 7 (nI 0)) Mu1 by rw [hm1]; exact SQ.rf _)
    have hv9 : Mu1.2 145 0 = ru1.toInt64 := by rw [hS9.2.1, hvv, hr1]
    refine r_istore C [(6, .int ru1), (5, .int (nI 0)), (0, .ref b9), (1, .ref (ad 117)), (2, .ref (ad 135)), (3, .ref (ad 145)), (4, .int (nI i9))] dL_law_1206 (by decide) rfl ?_
    refine r_aload_n C dL_law_1208 rfl 4 rfl ?_
    refine r_pcallV_i (nA := 0) C (by omega) [] (c_X8_thrown l D cs ad Mu1) (tt_V ml_L_98 im_X8_thrown se_X8_thrown in_X8 co_X8_thrown) ⟨rfl, rfl⟩ ⟨rfl, by decide, by decide, by decide⟩ ⟨Nat.le_of_ble_eq_true rfl, Nat.le_of_ble_eq_true rfl⟩ (by decide) rfl rfl rfl rfl rfl (Nat.le_of_ble_eq_true rfl) dL_law_1209 ?_
    refine r_topi (w := nI 0) hS9.1 ?_
    refine r_iload C dL_law_1212 1 rfl ?_
    refine r_icmpN_eq C 1219 dL_law_1214 (by decide) (by omega) (by omega) (fun h1214 => ?_) (fun h1214 => ?_)
    ·
      refine r_iload C dL_law_1219 1 rfl ?_
      refine r_if_ne C 1236 dL_law_1221 (by decide) (fun h1221 => ?_) (fun h1221 => ?_)
      · exact absurd rfl h1221
      ·
        refine r_aload_n C dL_law_1224 rfl 5 rfl ?_
        refine r_iconst C (nI 0) dL_law_1225 (by decide) ?_
        refine r_lald C (id := 145) (n := 1) (a := 0) (by decide) rfl (by decide) (by decide) dL_law_1226 ?_
        refine r_topl (w := ru1.toInt64) hv9 ?_
        refine r_iload C dL_law_1227 0 rfl ?_
        refine r_i2l C dL_law_1229 ?_
        refine r_lcmp C dL_law_1230 ?_
        refine r_if_eq C 1236 dL_law_1231 (by decide) (fun h1231 => ?_) (fun h1231 => ?_)
        ·
          rw [lgc_eq] at h1231
          refine r_goto C 1584 dL_law_1236 (by decide) ?_
          refine r_lv (lv2 := [(0, .ref b9), (1, .ref (ad 117)), (2, .ref (ad 135)), (3, .ref (ad 145)), (4, .int (nI i9))]) [2, 3, 4, 5, 6] rfl ?_
          exact k9 _ _ hS9.2.2 (by omega)
        · exact absurd (lgcT _) h1231
    · exact absurd h1214 (by decide)
set_option maxRecDepth 100000 in
set_option maxHeartbeats 4000000 in
theorem LC_bound {l : Launch} {D : va_G} {cs : Nat → ClassId} {ad : Nat → Nat} {κ : Kx} {u U : Nat} {M : Mm} (C : CX D cs ad cL_law 9 RL 2048 84000 U κ) (hN : CN ad κ) (hfl : l.stackTraces = false) {b9 L i9 : Nat} {xs : Nat → Int32} (hSc : CSX ad b9 L xs κ) (hL : L ≤ 2048) (hj : i9 + 4 ≤ L) {s9 lt len n d : Nat} {ct : Nat → Nat} (hX : RX M s9 lt len ct n d) (hu : u + 1 ≤ U) (k9 : ∀ (u2 : Nat) (M2 : Mm), RR M2 → u2 ≤ u + 1 → VV l D cs ad 9 κ u2 M2 1584 [(0, .ref b9), (1, .ref (ad 117)), (2, .ref (ad 135)), (3, .ref (ad 145)), (4, .int (nI i9))] []) : VV l D cs ad 9 κ u M 1239 [(0, .ref b9), (1, .ref (ad 117)), (2, .ref (ad 135)), (3, .ref (ad 145)), (4, .int (nI i9))] [] := by
  obtain ⟨hz, hg, hpm, hks, hkh, hkt, hms, hml, htx⟩ := (show RX M s9 lt len ct n d from hX)
  obtain ⟨hzn, hzd, ⟨hn1, hn8⟩, ⟨hd1, hd4⟩, ⟨mk, hk⟩, hsy, hw9, hlb, hhb, hlz, hz0⟩ := (show gz (M.1 136) n d from hz)
  obtain ⟨hlt, hlt6, hs, hs6, hhi⟩ := (show KH M (fun j p => M.1 137 (55 * j + p)) s9 lt from hkh)
  obtain ⟨hlen, hl60, hct⟩ := (show KT M ct len from hkt)
  have hm := gk_gm hn8 hk
  obtain ⟨e0, hq0⟩ := gz_gq hz
  cases w1 : (wit (xs (i9 + 1)) (nI 0) (nI 2)) with
  | false =>
    refine r_aload_n C dL_law_1239 rfl 1 rfl ?_
    refine r_aload_n C dL_law_1240 rfl 0 rfl ?_
    refine r_iload C dL_law_1241 4 rfl ?_
    refine r_iconst C (nI 1) dL_law_1243 (by decide) ?_
    refine r_iadd C dL_law_1244 ?_
    refine r_topi (nI_add i9 1) ?_
    refine r_sld C hSc (by omega) hL dL_law_1245 ?_
    refine r_aload_n C dL_law_1246 rfl 3 rfl ?_
    refine r_wcall C hN (u1 := 1) (nA := 3) (by omega) [.ref (ad 117), .int (xs (i9 + 1)), .ref (ad 145)] (w_boundX l D cs ad hfl M (xs (i9 + 1)) w1) (tt_W ml_L_165 st_L_bound in_L co_L_bound) ⟨by decide, by decide, by decide⟩ ⟨Nat.le_of_ble_eq_true rfl, Nat.le_of_ble_eq_true rfl⟩ rfl rfl (Nat.le_of_ble_eq_true rfl) dL_law_1247 (fun rw1 Mw qw => ?_)
    obtain ⟨rfl, hc⟩ := qw
    have e1 : Mw.1 = Mw.1 := rfl
    have e2 : Mw.2 145 0 = Mw.2 145 0 := rfl
    have eM : ∀ i, 135 ≤ i → Mw.1 i = M.1 i := eM_lk (lk_eq hc)
    have e136 : Mw.1 136 = M.1 136 := eM 136 (by decide)
    refine r_istore C [(5, .int (nI 1)), (0, .ref b9), (1, .ref (ad 117)), (2, .ref (ad 135)), (3, .ref (ad 145)), (4, .int (nI i9))] dL_law_1250 (by decide) rfl ?_
    refine r_aload_n C dL_law_1252 rfl 3 rfl ?_
    refine r_aload_n C dL_law_1253 rfl 1 rfl ?_
    refine r_iload C dL_law_1254 5 rfl ?_
    refine r_iconst C (nI 1) dL_law_1256 (by decide) ?_
    refine r_iadd C dL_law_1257 ?_
    refine r_topi (nI_add i9 1) ?_
    refine r_sld C hSc (by omega) hL dL_law_1258 ?_
    refine r_callV_l (nA := 1) C (by omega) [.int (xs (i9 + 1))] (c_X8_boundX l D cs ad Mw (xs (i9 + 1)) w1) (tt_V ml_L_167 im_X8_bound se_X8_bound in_X8 co_X8_bound) ⟨rfl, rfl⟩ ⟨rfl, by decide, by decide, by decide⟩ ⟨Nat.le_of_ble_eq_true rfl, Nat.le_of_ble_eq_true rfl⟩ (by decide) rfl rfl rfl rfl rfl (Nat.le_of_ble_eq_true rfl) dL_law_1259 (fun ru1 Mu1 qu1 => ?_)
    obtain ⟨hr1, hm1⟩ := qu1
    have hS9 : Mu1.1 135 7 = nI 1 ∧ Mu1.2 145 0 = _ ∧ RR Mu1 := S_lk hX (lk_eq hc) e1 e2 (show SQ (mI Mw 135 7 (nI 1)) Mu1 by rw [hm1]; exact SQ.rf _)
    refine r_lstore C [(6, .long ru1), (5, .int (nI 1)), (0, .ref b9), (1, .ref (ad 117)), (2, .ref (ad 135)), (3, .ref (ad 145)), (4, .int (nI i9))] dL_law_1262 (by decide) rfl ?_
    refine r_aload_n C dL_law_1264 rfl 4 rfl ?_
    refine r_pcallV_i (nA := 0) C (by omega) [] (c_X8_thrown l D cs ad Mu1) (tt_V ml_L_98 im_X8_thrown se_X8_thrown in_X8 co_X8_thrown) ⟨rfl, rfl⟩ ⟨rfl, by decide, by decide, by decide⟩ ⟨Nat.le_of_ble_eq_true rfl, Nat.le_of_ble_eq_true rfl⟩ (by decide) rfl rfl rfl rfl rfl (Nat.le_of_ble_eq_true rfl) dL_law_1265 ?_
    refine r_topi (w := nI 1) hS9.1 ?_
    refine r_iload C dL_law_1268 1 rfl ?_
    refine r_icmpN_eq C 1275 dL_law_1270 (by decide) (by omega) (by omega) (fun h1270 => ?_) (fun h1270 => ?_)
    ·
      refine r_iload C dL_law_1275 1 rfl ?_
      refine r_if_ne C 1291 dL_law_1277 (by decide) (fun h1277 => ?_) (fun h1277 => ?_)
      ·
        refine r_goto C 1584 dL_law_1291 (by decide) ?_
        refine r_lv (lv2 := [(0, .ref b9), (1, .ref (ad 117)), (2, .ref (ad 135)), (3, .ref (ad 145)), (4, .int (nI i9))]) [2, 3, 4, 5, 6] rfl ?_
        exact k9 _ _ hS9.2.2 (by omega)
      · exact absurd h1277 (by decide)
    · exact absurd h1270 (by decide)
  | true =>
    obtain ⟨p, -, hp, p1⟩ := wit_rg (by decide) (by decide) w1
    refine r_aload_n C dL_law_1239 rfl 1 rfl ?_
    refine r_aload_n C dL_law_1240 rfl 0 rfl ?_
    refine r_iload C dL_law_1241 4 rfl ?_
    refine r_iconst C (nI 1) dL_law_1243 (by decide) ?_
    refine r_iadd C dL_law_1244 ?_
    refine r_topi (nI_add i9 1) ?_
    refine r_sld C hSc (by omega) hL dL_law_1245 ?_
    refine r_topi (w := nI p) p1 ?_
    refine r_aload_n C dL_law_1246 rfl 3 rfl ?_
    refine r_wcall C hN (u1 := 0) (nA := 3) (by omega) [.ref (ad 117), .int (nI p), .ref (ad 145)] (w_bound l D cs ad M (M.1 136) n d hg hn8 hm mk hk (wtz (M.1 136)) (Uz (M.1 136)) (Sz (M.1 136)) (Hz (M.1 136)) (gz_B hz).1 (gz_B hz).2 p hp) (tt_W ml_L_165 st_L_bound in_L co_L_bound) ⟨by decide, by decide, by decide⟩ ⟨Nat.le_of_ble_eq_true rfl, Nat.le_of_ble_eq_true rfl⟩ rfl rfl (Nat.le_of_ble_eq_true rfl) dL_law_1247 (fun rw1 Mw qw => ?_)
    obtain ⟨rfl, v9, M9, hp9, hw9b⟩ := qw
    have e1 : Mw.1 = M9.1 := by rw [hw9b]; rfl
    have e2 : Mw.2 145 0 = v9 := by rw [hw9b, mJ_eq, vL_e]
    obtain ⟨hvv, hc⟩ := hp9
    have eM : ∀ i, 135 ≤ i → Mw.1 i = M.1 i := fun i hi => by rw [e1]; exact (show ∀ i, 135 ≤ i → M9.1 i = M.1 i from eM_lk hc) i hi
    have e136 : Mw.1 136 = M.1 136 := eM 136 (by decide)
    refine r_istore C [(5, .int (nI 0)), (0, .ref b9), (1, .ref (ad 117)), (2, .ref (ad 135)), (3, .ref (ad 145)), (4, .int (nI i9))] dL_law_1250 (by decide) rfl ?_
    refine r_aload_n C dL_law_1252 rfl 3 rfl ?_
    refine r_aload_n C dL_law_1253 rfl 1 rfl ?_
    refine r_iload C dL_law_1254 5 rfl ?_
    refine r_iconst C (nI 1) dL_law_1256 (by decide) ?_
    refine r_iadd C dL_law_1257 ?_
    refine r_topi (nI_add i9 1) ?_
    refine r_sld C hSc (by omega) hL dL_law_1258 ?_
    refine r_topi (w := nI p) p1 ?_
    refine r_callV_l (nA := 1) C (by omega) [.int (nI p)] (c_X8_bound l D cs ad Mw p hp n (by rw [e136]; exact hz.1) hn8 (wtz (M.1 136)) (Uz (M.1 136)) (Sz (M.1 136)) (Hz (M.1 136)) (by rw [e136]; exact (gz_B hz).1)) (tt_V ml_L_167 im_X8_bound se_X8_bound in_X8 co_X8_bound) ⟨rfl, rfl⟩ ⟨rfl, by decide, by decide, by decide⟩ ⟨Nat.le_of_ble_eq_true rfl, Nat.le_of_ble_eq_true rfl⟩ (by decide) rfl rfl rfl rfl rfl (Nat.le_of_ble_eq_true rfl) dL_law_1259 (fun ru1 Mu1 qu1 => ?_)
    rw [e136] at qu1
    obtain ⟨hr1, hm1⟩ := qu1
    have hS9 : Mu1.1 135 7 = nI 0 ∧ Mu1.2 145 0 = _ ∧ RR Mu1 := S_lk hX hc e1 e2 (SQ.S hm1)
    have hv9 : Mu1.2 145 0 = ru1 := by rw [hS9.2.1, hvv, hr1]
    refine r_lstore C [(6, .long ru1), (5, .int (nI 0)), (0, .ref b9), (1, .ref (ad 117)), (2, .ref (ad 135)), (3, .ref (ad 145)), (4, .int (nI i9))] dL_law_1262 (by decide) rfl ?_
    refine r_aload_n C dL_law_1264 rfl 4 rfl ?_
    refine r_pcallV_i (nA := 0) C (by omega) [] (c_X8_thrown l D cs ad Mu1) (tt_V ml_L_98 im_X8_thrown se_X8_thrown in_X8 co_X8_thrown) ⟨rfl, rfl⟩ ⟨rfl, by decide, by decide, by decide⟩ ⟨Nat.le_of_ble_eq_true rfl, Nat.le_of_ble_eq_true rfl⟩ (by decide) rfl rfl rfl rfl rfl (Nat.le_of_ble_eq_true rfl) dL_law_1265 ?_
    refine r_topi (w := nI 0) hS9.1 ?_
    refine r_iload C dL_law_1268 1 rfl ?_
    refine r_icmpN_eq C 1275 dL_law_1270 (by decide) (by omega) (by omega) (fun h1270 => ?_) (fun h1270 => ?_)
    ·
      refine r_iload C dL_law_1275 1 rfl ?_
      refine r_if_ne C 1291 dL_law_1277 (by decide) (fun h1277 => ?_) (fun h1277 => ?_)
      · exact absurd rfl h1277
      ·
        refine r_aload_n C dL_law_1280 rfl 5 rfl ?_
        refine r_iconst C (nI 0) dL_law_1281 (by decide) ?_
        refine r_lald C (id := 145) (n := 1) (a := 0) (by decide) rfl (by decide) (by decide) dL_law_1282 ?_
        refine r_topl (w := ru1) hv9 ?_
        refine r_lload C dL_law_1283 0 rfl ?_
        refine r_lcmp C dL_law_1285 ?_
        refine r_if_eq C 1291 dL_law_1286 (by decide) (fun h1286 => ?_) (fun h1286 => ?_)
        ·
          rw [lgc_eq] at h1286
          refine r_goto C 1584 dL_law_1291 (by decide) ?_
          refine r_lv (lv2 := [(0, .ref b9), (1, .ref (ad 117)), (2, .ref (ad 135)), (3, .ref (ad 145)), (4, .int (nI i9))]) [2, 3, 4, 5, 6] rfl ?_
          exact k9 _ _ hS9.2.2 (by omega)
        · exact absurd (lgcT _) h1286
    · exact absurd h1270 (by decide)
set_option maxRecDepth 100000 in
set_option maxHeartbeats 4000000 in
theorem LC_whyNot {l : Launch} {D : va_G} {cs : Nat → ClassId} {ad : Nat → Nat} {κ : Kx} {u U : Nat} {M : Mm} (C : CX D cs ad cL_law 9 RL 2048 84000 U κ) (hN : CN ad κ) (hfl : l.stackTraces = false) {b9 L i9 : Nat} {xs : Nat → Int32} (hSc : CSX ad b9 L xs κ) (hL : L ≤ 2048) (hj : i9 + 4 ≤ L) {s9 lt len n d : Nat} {ct : Nat → Nat} (hX : RX M s9 lt len ct n d) (hu : u + 1 ≤ U) (k9 : ∀ (u2 : Nat) (M2 : Mm), RR M2 → u2 ≤ u + 1 → VV l D cs ad 9 κ u2 M2 1584 [(0, .ref b9), (1, .ref (ad 117)), (2, .ref (ad 135)), (3, .ref (ad 145)), (4, .int (nI i9))] []) : VV l D cs ad 9 κ u M 1294 [(0, .ref b9), (1, .ref (ad 117)), (2, .ref (ad 135)), (3, .ref (ad 145)), (4, .int (nI i9))] [] := by
  obtain ⟨hz, hg, hpm, hks, hkh, hkt, hms, hml, htx⟩ := (show RX M s9 lt len ct n d from hX)
  obtain ⟨hzn, hzd, ⟨hn1, hn8⟩, ⟨hd1, hd4⟩, ⟨mk, hk⟩, hsy, hw9, hlb, hhb, hlz, hz0⟩ := (show gz (M.1 136) n d from hz)
  obtain ⟨hlt, hlt6, hs, hs6, hhi⟩ := (show KH M (fun j p => M.1 137 (55 * j + p)) s9 lt from hkh)
  obtain ⟨hlen, hl60, hct⟩ := (show KT M ct len from hkt)
  have hm := gk_gm hn8 hk
  obtain ⟨e0, hq0⟩ := gz_gq hz
  cases w1 : (wit (xs (i9 + 1)) (nI 0) (nI 2)) with
  | false =>
    refine r_aload_n C dL_law_1294 rfl 1 rfl ?_
    refine r_aload_n C dL_law_1295 rfl 0 rfl ?_
    refine r_iload C dL_law_1296 4 rfl ?_
    refine r_iconst C (nI 1) dL_law_1298 (by decide) ?_
    refine r_iadd C dL_law_1299 ?_
    refine r_topi (nI_add i9 1) ?_
    refine r_sld C hSc (by omega) hL dL_law_1300 ?_
    refine r_aload_n C dL_law_1301 rfl 3 rfl ?_
    refine r_wcall C hN (u1 := 1) (nA := 3) (by omega) [.ref (ad 117), .int (xs (i9 + 1)), .ref (ad 145)] (w_whyNotX l D cs ad hfl M (xs (i9 + 1)) w1) (tt_W ml_L_168 st_L_whyNot in_L co_L_whyNot) ⟨by decide, by decide, by decide⟩ ⟨Nat.le_of_ble_eq_true rfl, Nat.le_of_ble_eq_true rfl⟩ rfl rfl (Nat.le_of_ble_eq_true rfl) dL_law_1302 (fun rw1 Mw qw => ?_)
    obtain ⟨rfl, hc⟩ := qw
    have e1 : Mw.1 = Mw.1 := rfl
    have e2 : Mw.2 145 0 = Mw.2 145 0 := rfl
    have eM : ∀ i, 135 ≤ i → Mw.1 i = M.1 i := eM_lk (lk_eq hc)
    have e136 : Mw.1 136 = M.1 136 := eM 136 (by decide)
    refine r_istore C [(5, .int (nI 1)), (0, .ref b9), (1, .ref (ad 117)), (2, .ref (ad 135)), (3, .ref (ad 145)), (4, .int (nI i9))] dL_law_1305 (by decide) rfl ?_
    refine r_aload_n C dL_law_1307 rfl 3 rfl ?_
    refine r_aload_n C dL_law_1308 rfl 1 rfl ?_
    refine r_iload C dL_law_1309 5 rfl ?_
    refine r_iconst C (nI 1) dL_law_1311 (by decide) ?_
    refine r_iadd C dL_law_1312 ?_
    refine r_topi (nI_add i9 1) ?_
    refine r_sld C hSc (by omega) hL dL_law_1313 ?_
    refine r_callV_i (nA := 1) C (by omega) [.int (xs (i9 + 1))] (c_X8_whyNotX l D cs ad Mw (xs (i9 + 1)) w1) (tt_V ml_L_170 im_X8_whyNot se_X8_whyNot in_X8 co_X8_whyNot) ⟨rfl, rfl⟩ ⟨rfl, by decide, by decide, by decide⟩ ⟨Nat.le_of_ble_eq_true rfl, Nat.le_of_ble_eq_true rfl⟩ (by decide) rfl rfl rfl rfl rfl (Nat.le_of_ble_eq_true rfl) dL_law_1314 (fun ru1 Mu1 qu1 => ?_)
    obtain ⟨hr1, hm1⟩ := qu1
    have hS9 : Mu1.1 135 7 = nI 1 ∧ Mu1.2 145 0 = _ ∧ RR Mu1 := S_lk hX (lk_eq hc) e1 e2 (show SQ (mI Mw 135 7 (nI 1)) Mu1 by rw [hm1]; exact SQ.rf _)
    refine r_istore C [(6, .int ru1), (5, .int (nI 1)), (0, .ref b9), (1, .ref (ad 117)), (2, .ref (ad 135)), (3, .ref (ad 145)), (4, .int (nI i9))] dL_law_1317 (by decide) rfl ?_
    refine r_aload_n C dL_law_1319 rfl 4 rfl ?_
    refine r_pcallV_i (nA := 0) C (by omega) [] (c_X8_thrown l D cs ad Mu1) (tt_V ml_L_98 im_X8_thrown se_X8_thrown in_X8 co_X8_thrown) ⟨rfl, rfl⟩ ⟨rfl, by decide, by decide, by decide⟩ ⟨Nat.le_of_ble_eq_true rfl, Nat.le_of_ble_eq_true rfl⟩ (by decide) rfl rfl rfl rfl rfl (Nat.le_of_ble_eq_true rfl) dL_law_1320 ?_
    refine r_topi (w := nI 1) hS9.1 ?_
    refine r_iload C dL_law_1323 1 rfl ?_
    refine r_icmpN_eq C 1330 dL_law_1325 (by decide) (by omega) (by omega) (fun h1325 => ?_) (fun h1325 => ?_)
    ·
      refine r_iload C dL_law_1330 1 rfl ?_
      refine r_if_ne C 1347 dL_law_1332 (by decide) (fun h1332 => ?_) (fun h1332 => ?_)
      ·
        refine r_goto C 1584 dL_law_1347 (by decide) ?_
        refine r_lv (lv2 := [(0, .ref b9), (1, .ref (ad 117)), (2, .ref (ad 135)), (3, .ref (ad 145)), (4, .int (nI i9))]) [2, 3, 4, 5, 6] rfl ?_
        exact k9 _ _ hS9.2.2 (by omega)
      · exact absurd h1332 (by decide)
    · exact absurd h1325 (by decide)
  | true =>
    obtain ⟨p, -, hp, p1⟩ := wit_rg (by decide) (by decide) w1
    refine r_aload_n C dL_law_1294 rfl 1 rfl ?_
    refine r_aload_n C dL_law_1295 rfl 0 rfl ?_
    refine r_iload C dL_law_1296 4 rfl ?_
    refine r_iconst C (nI 1) dL_law_1298 (by decide) ?_
    refine r_iadd C dL_law_1299 ?_
    refine r_topi (nI_add i9 1) ?_
    refine r_sld C hSc (by omega) hL dL_law_1300 ?_
    refine r_topi (w := nI p) p1 ?_
    refine r_aload_n C dL_law_1301 rfl 3 rfl ?_
    refine r_wcall C hN (u1 := 0) (nA := 3) (by omega) [.ref (ad 117), .int (nI p), .ref (ad 145)] (w_whyNot l D cs ad M (M.1 136) n d hg hn8 hm mk hk p hp) (tt_W ml_L_168 st_L_whyNot in_L co_L_whyNot) ⟨by decide, by decide, by decide⟩ ⟨Nat.le_of_ble_eq_true rfl, Nat.le_of_ble_eq_true rfl⟩ rfl rfl (Nat.le_of_ble_eq_true rfl) dL_law_1302 (fun rw1 Mw qw => ?_)
    obtain ⟨rfl, v9, M9, hp9, hw9b⟩ := qw
    have e1 : Mw.1 = M9.1 := by rw [hw9b]; rfl
    have e2 : Mw.2 145 0 = v9.toInt64 := by rw [hw9b, mJ_eq, vL_e]
    obtain ⟨hvv, hc⟩ := hp9
    have eM : ∀ i, 135 ≤ i → Mw.1 i = M.1 i := fun i hi => by rw [e1]; exact (show ∀ i, 135 ≤ i → M9.1 i = M.1 i from eM_lk (lk_eq hc)) i hi
    have e136 : Mw.1 136 = M.1 136 := eM 136 (by decide)
    refine r_istore C [(5, .int (nI 0)), (0, .ref b9), (1, .ref (ad 117)), (2, .ref (ad 135)), (3, .ref (ad 145)), (4, .int (nI i9))] dL_law_1305 (by decide) rfl ?_
    refine r_aload_n C dL_law_1307 rfl 3 rfl ?_
    refine r_aload_n C dL_law_1308 rfl 1 rfl ?_
    refine r_iload C dL_law_1309 5 rfl ?_
    refine r_iconst C (nI 1) dL_law_1311 (by decide) ?_
    refine r_iadd C dL_law_1312 ?_
    refine r_topi (nI_add i9 1) ?_
    refine r_sld C hSc (by omega) hL dL_law_1313 ?_
    refine r_topi (w := nI p) p1 ?_
    refine r_callV_i (nA := 1) C (by omega) [.int (nI p)] (c_X8_whyNot l D cs ad Mw p hp n (by rw [e136]; exact hz.1) hn8) (tt_V ml_L_170 im_X8_whyNot se_X8_whyNot in_X8 co_X8_whyNot) ⟨rfl, rfl⟩ ⟨rfl, by decide, by decide, by decide⟩ ⟨Nat.le_of_ble_eq_true rfl, Nat.le_of_ble_eq_true rfl⟩ (by decide) rfl rfl rfl rfl rfl (Nat.le_of_ble_eq_true rfl) dL_law_1314 (fun ru1 Mu1 qu1 => ?_)
    rw [e136] at qu1
    obtain ⟨hr1, hm1⟩ := qu1
    have hS9 : Mu1.1 135 7 = nI 0 ∧ Mu1.2 145 0 = _ ∧ RR Mu1 := S_lk hX (lk_eq hc) e1 e2 (show SQ (mI Mw 135 7 (nI 0)) Mu1 by rw [hm1]; exact SQ.rf _)
    have hv9 : Mu1.2 145 0 = ru1.toInt64 := by rw [hS9.2.1, hvv, hr1]
    refine r_istore C [(6, .int ru1), (5, .int (nI 0)), (0, .ref b9), (1, .ref (ad 117)), (2, .ref (ad 135)), (3, .ref (ad 145)), (4, .int (nI i9))] dL_law_1317 (by decide) rfl ?_
    refine r_aload_n C dL_law_1319 rfl 4 rfl ?_
    refine r_pcallV_i (nA := 0) C (by omega) [] (c_X8_thrown l D cs ad Mu1) (tt_V ml_L_98 im_X8_thrown se_X8_thrown in_X8 co_X8_thrown) ⟨rfl, rfl⟩ ⟨rfl, by decide, by decide, by decide⟩ ⟨Nat.le_of_ble_eq_true rfl, Nat.le_of_ble_eq_true rfl⟩ (by decide) rfl rfl rfl rfl rfl (Nat.le_of_ble_eq_true rfl) dL_law_1320 ?_
    refine r_topi (w := nI 0) hS9.1 ?_
    refine r_iload C dL_law_1323 1 rfl ?_
    refine r_icmpN_eq C 1330 dL_law_1325 (by decide) (by omega) (by omega) (fun h1325 => ?_) (fun h1325 => ?_)
    ·
      refine r_iload C dL_law_1330 1 rfl ?_
      refine r_if_ne C 1347 dL_law_1332 (by decide) (fun h1332 => ?_) (fun h1332 => ?_)
      · exact absurd rfl h1332
      ·
        refine r_aload_n C dL_law_1335 rfl 5 rfl ?_
        refine r_iconst C (nI 0) dL_law_1336 (by decide) ?_
        refine r_lald C (id := 145) (n := 1) (a := 0) (by decide) rfl (by decide) (by decide) dL_law_1337 ?_
        refine r_topl (w := ru1.toInt64) hv9 ?_
        refine r_iload C dL_law_1338 0 rfl ?_
        refine r_i2l C dL_law_1340 ?_
        refine r_lcmp C dL_law_1341 ?_
        refine r_if_eq C 1347 dL_law_1342 (by decide) (fun h1342 => ?_) (fun h1342 => ?_)
        ·
          rw [lgc_eq] at h1342
          refine r_goto C 1584 dL_law_1347 (by decide) ?_
          refine r_lv (lv2 := [(0, .ref b9), (1, .ref (ad 117)), (2, .ref (ad 135)), (3, .ref (ad 145)), (4, .int (nI i9))]) [2, 3, 4, 5, 6] rfl ?_
          exact k9 _ _ hS9.2.2 (by omega)
        · exact absurd (lgcT _) h1342
    · exact absurd h1325 (by decide)
set_option maxRecDepth 100000 in
set_option maxHeartbeats 4000000 in
theorem LC_bestHandle {l : Launch} {D : va_G} {cs : Nat → ClassId} {ad : Nat → Nat} {κ : Kx} {u U : Nat} {M : Mm} (C : CX D cs ad cL_law 9 RL 2048 84000 U κ) (hN : CN ad κ) (hfl : l.stackTraces = false) {b9 L i9 : Nat} {xs : Nat → Int32} (hSc : CSX ad b9 L xs κ) (hL : L ≤ 2048) (hj : i9 + 4 ≤ L) {s9 lt len n d : Nat} {ct : Nat → Nat} (hX : RX M s9 lt len ct n d) (hu : u + 1 ≤ U) (k9 : ∀ (u2 : Nat) (M2 : Mm), RR M2 → u2 ≤ u + 1 → VV l D cs ad 9 κ u2 M2 1584 [(0, .ref b9), (1, .ref (ad 117)), (2, .ref (ad 135)), (3, .ref (ad 145)), (4, .int (nI i9))] []) : VV l D cs ad 9 κ u M 1406 [(0, .ref b9), (1, .ref (ad 117)), (2, .ref (ad 135)), (3, .ref (ad 145)), (4, .int (nI i9))] [] := by
  obtain ⟨hz, hg, hpm, hks, hkh, hkt, hms, hml, htx⟩ := (show RX M s9 lt len ct n d from hX)
  obtain ⟨hzn, hzd, ⟨hn1, hn8⟩, ⟨hd1, hd4⟩, ⟨mk, hk⟩, hsy, hw9, hlb, hhb, hlz, hz0⟩ := (show gz (M.1 136) n d from hz)
  obtain ⟨hlt, hlt6, hs, hs6, hhi⟩ := (show KH M (fun j p => M.1 137 (55 * j + p)) s9 lt from hkh)
  obtain ⟨hlen, hl60, hct⟩ := (show KT M ct len from hkt)
  have hm := gk_gm hn8 hk
  obtain ⟨e0, hq0⟩ := gz_gq hz
  cases w1 : (wit (xs (i9 + 1)) (nI 1) (nI 2)) with
  | false =>
    refine r_aload_n C dL_law_1406 rfl 1 rfl ?_
    refine r_aload_n C dL_law_1407 rfl 0 rfl ?_
    refine r_iload C dL_law_1408 4 rfl ?_
    refine r_iconst C (nI 1) dL_law_1410 (by decide) ?_
    refine r_iadd C dL_law_1411 ?_
    refine r_topi (nI_add i9 1) ?_
    refine r_sld C hSc (by omega) hL dL_law_1412 ?_
    refine r_aload_n C dL_law_1413 rfl 0 rfl ?_
    refine r_iload C dL_law_1414 4 rfl ?_
    refine r_iconst C (nI 2) dL_law_1416 (by decide) ?_
    refine r_iadd C dL_law_1417 ?_
    refine r_topi (nI_add i9 2) ?_
    refine r_sld C hSc (by omega) hL dL_law_1418 ?_
    refine r_aload_n C dL_law_1419 rfl 3 rfl ?_
    refine r_wcall C hN (u1 := 1) (nA := 4) (by omega) [.ref (ad 117), .int (xs (i9 + 1)), .int (xs (i9 + 2)), .ref (ad 145)] (w_bestHandleX1 l D cs ad hfl M (xs (i9 + 1)) (xs (i9 + 2)) w1) (tt_W ml_L_174 st_L_bestHandle in_L co_L_bestHandle) ⟨by decide, by decide, by decide⟩ ⟨Nat.le_of_ble_eq_true rfl, Nat.le_of_ble_eq_true rfl⟩ rfl rfl (Nat.le_of_ble_eq_true rfl) dL_law_1420 (fun rw1 Mw qw => ?_)
    obtain ⟨rfl, hc⟩ := qw
    have e1 : Mw.1 = Mw.1 := rfl
    have e2 : Mw.2 145 0 = Mw.2 145 0 := rfl
    have eM : ∀ i, 135 ≤ i → Mw.1 i = M.1 i := eM_lk (lk_eq hc)
    have e136 : Mw.1 136 = M.1 136 := eM 136 (by decide)
    refine r_istore C [(5, .int (nI 1)), (0, .ref b9), (1, .ref (ad 117)), (2, .ref (ad 135)), (3, .ref (ad 145)), (4, .int (nI i9))] dL_law_1423 (by decide) rfl ?_
    refine r_aload_n C dL_law_1425 rfl 3 rfl ?_
    refine r_aload_n C dL_law_1426 rfl 1 rfl ?_
    refine r_iload C dL_law_1427 5 rfl ?_
    refine r_iconst C (nI 1) dL_law_1429 (by decide) ?_
    refine r_iadd C dL_law_1430 ?_
    refine r_topi (nI_add i9 1) ?_
    refine r_sld C hSc (by omega) hL dL_law_1431 ?_
    refine r_aload_n C dL_law_1432 rfl 1 rfl ?_
    refine r_iload C dL_law_1433 5 rfl ?_
    refine r_iconst C (nI 2) dL_law_1435 (by decide) ?_
    refine r_iadd C dL_law_1436 ?_
    refine r_topi (nI_add i9 2) ?_
    refine r_sld C hSc (by omega) hL dL_law_1437 ?_
    refine r_callV_l (nA := 2) C (by omega) [.int (xs (i9 + 1)), .int (xs (i9 + 2))] (c_X8_bestHandleX l D cs ad Mw (xs (i9 + 1)) (xs (i9 + 2)) (by rw [w1]; rfl)) (tt_V ml_L_176 im_X8_bestHandle se_X8_bestHandle in_X8 co_X8_bestHandle) ⟨rfl, rfl⟩ ⟨rfl, by decide, by decide, by decide⟩ ⟨Nat.le_of_ble_eq_true rfl, Nat.le_of_ble_eq_true rfl⟩ (by decide) rfl rfl rfl rfl rfl (Nat.le_of_ble_eq_true rfl) dL_law_1438 (fun ru1 Mu1 qu1 => ?_)
    obtain ⟨hr1, hm1⟩ := qu1
    have hS9 : Mu1.1 135 7 = nI 1 ∧ Mu1.2 145 0 = _ ∧ RR Mu1 := S_lk hX (lk_eq hc) e1 e2 (show SQ (mI Mw 135 7 (nI 1)) Mu1 by rw [hm1]; exact SQ.rf _)
    refine r_lstore C [(6, .long ru1), (5, .int (nI 1)), (0, .ref b9), (1, .ref (ad 117)), (2, .ref (ad 135)), (3, .ref (ad 145)), (4, .int (nI i9))] dL_law_1441 (by decide) rfl ?_
    refine r_aload_n C dL_law_1443 rfl 4 rfl ?_
    refine r_pcallV_i (nA := 0) C (by omega) [] (c_X8_thrown l D cs ad Mu1) (tt_V ml_L_98 im_X8_thrown se_X8_thrown in_X8 co_X8_thrown) ⟨rfl, rfl⟩ ⟨rfl, by decide, by decide, by decide⟩ ⟨Nat.le_of_ble_eq_true rfl, Nat.le_of_ble_eq_true rfl⟩ (by decide) rfl rfl rfl rfl rfl (Nat.le_of_ble_eq_true rfl) dL_law_1444 ?_
    refine r_topi (w := nI 1) hS9.1 ?_
    refine r_iload C dL_law_1447 1 rfl ?_
    refine r_icmpN_eq C 1454 dL_law_1449 (by decide) (by omega) (by omega) (fun h1449 => ?_) (fun h1449 => ?_)
    ·
      refine r_iload C dL_law_1454 1 rfl ?_
      refine r_if_ne C 1470 dL_law_1456 (by decide) (fun h1456 => ?_) (fun h1456 => ?_)
      ·
        refine r_goto C 1584 dL_law_1470 (by decide) ?_
        refine r_lv (lv2 := [(0, .ref b9), (1, .ref (ad 117)), (2, .ref (ad 135)), (3, .ref (ad 145)), (4, .int (nI i9))]) [2, 3, 4, 5, 6] rfl ?_
        exact k9 _ _ hS9.2.2 (by omega)
      · exact absurd h1456 (by decide)
    · exact absurd h1449 (by decide)
  | true =>
    obtain ⟨size, hs1, hs2, p1⟩ := wit_rg (by decide) (by decide) w1
    obtain ⟨bb, hbb⟩ : ∃ bb, 2 * size + 1 = bb := ⟨_, rfl⟩
    cases w2 : (wit (xs (i9 + 2)) (nI 0) (nI 1)) with
    | false =>
      cases w3 : (wit (xs (i9 + 2)) (nI 10) (nI 13)) with
      | false =>
        refine r_aload_n C dL_law_1406 rfl 1 rfl ?_
        refine r_aload_n C dL_law_1407 rfl 0 rfl ?_
        refine r_iload C dL_law_1408 4 rfl ?_
        refine r_iconst C (nI 1) dL_law_1410 (by decide) ?_
        refine r_iadd C dL_law_1411 ?_
        refine r_topi (nI_add i9 1) ?_
        refine r_sld C hSc (by omega) hL dL_law_1412 ?_
        refine r_topi (w := nI size) p1 ?_
        refine r_aload_n C dL_law_1413 rfl 0 rfl ?_
        refine r_iload C dL_law_1414 4 rfl ?_
        refine r_iconst C (nI 2) dL_law_1416 (by decide) ?_
        refine r_iadd C dL_law_1417 ?_
        refine r_topi (nI_add i9 2) ?_
        refine r_sld C hSc (by omega) hL dL_law_1418 ?_
        refine r_aload_n C dL_law_1419 rfl 3 rfl ?_
        refine r_wcall C hN (u1 := 1) (nA := 4) (by omega) [.ref (ad 117), .int (nI size), .int (xs (i9 + 2)), .ref (ad 145)] (w_bestHandleX2 l D cs ad hfl M size hs1 hs2 (xs (i9 + 2)) w2 w3) (tt_W ml_L_174 st_L_bestHandle in_L co_L_bestHandle) ⟨by decide, by decide, by decide⟩ ⟨Nat.le_of_ble_eq_true rfl, Nat.le_of_ble_eq_true rfl⟩ rfl rfl (Nat.le_of_ble_eq_true rfl) dL_law_1420 (fun rw1 Mw qw => ?_)
        obtain ⟨rfl, hc⟩ := qw
        have e1 : Mw.1 = Mw.1 := rfl
        have e2 : Mw.2 145 0 = Mw.2 145 0 := rfl
        have eM : ∀ i, 135 ≤ i → Mw.1 i = M.1 i := eM_lk (lk_eq hc)
        have e136 : Mw.1 136 = M.1 136 := eM 136 (by decide)
        refine r_istore C [(5, .int (nI 1)), (0, .ref b9), (1, .ref (ad 117)), (2, .ref (ad 135)), (3, .ref (ad 145)), (4, .int (nI i9))] dL_law_1423 (by decide) rfl ?_
        refine r_aload_n C dL_law_1425 rfl 3 rfl ?_
        refine r_aload_n C dL_law_1426 rfl 1 rfl ?_
        refine r_iload C dL_law_1427 5 rfl ?_
        refine r_iconst C (nI 1) dL_law_1429 (by decide) ?_
        refine r_iadd C dL_law_1430 ?_
        refine r_topi (nI_add i9 1) ?_
        refine r_sld C hSc (by omega) hL dL_law_1431 ?_
        refine r_topi (w := nI size) p1 ?_
        refine r_aload_n C dL_law_1432 rfl 1 rfl ?_
        refine r_iload C dL_law_1433 5 rfl ?_
        refine r_iconst C (nI 2) dL_law_1435 (by decide) ?_
        refine r_iadd C dL_law_1436 ?_
        refine r_topi (nI_add i9 2) ?_
        refine r_sld C hSc (by omega) hL dL_law_1437 ?_
        refine r_callV_l (nA := 2) C (by omega) [.int (nI size), .int (xs (i9 + 2))] (c_X8_bestHandleX l D cs ad Mw (nI size) (xs (i9 + 2)) (by rw [w2, w3, Bool.or_false, Bool.and_false])) (tt_V ml_L_176 im_X8_bestHandle se_X8_bestHandle in_X8 co_X8_bestHandle) ⟨rfl, rfl⟩ ⟨rfl, by decide, by decide, by decide⟩ ⟨Nat.le_of_ble_eq_true rfl, Nat.le_of_ble_eq_true rfl⟩ (by decide) rfl rfl rfl rfl rfl (Nat.le_of_ble_eq_true rfl) dL_law_1438 (fun ru1 Mu1 qu1 => ?_)
        obtain ⟨hr1, hm1⟩ := qu1
        have hS9 : Mu1.1 135 7 = nI 1 ∧ Mu1.2 145 0 = _ ∧ RR Mu1 := S_lk hX (lk_eq hc) e1 e2 (show SQ (mI Mw 135 7 (nI 1)) Mu1 by rw [hm1]; exact SQ.rf _)
        refine r_lstore C [(6, .long ru1), (5, .int (nI 1)), (0, .ref b9), (1, .ref (ad 117)), (2, .ref (ad 135)), (3, .ref (ad 145)), (4, .int (nI i9))] dL_law_1441 (by decide) rfl ?_
        refine r_aload_n C dL_law_1443 rfl 4 rfl ?_
        refine r_pcallV_i (nA := 0) C (by omega) [] (c_X8_thrown l D cs ad Mu1) (tt_V ml_L_98 im_X8_thrown se_X8_thrown in_X8 co_X8_thrown) ⟨rfl, rfl⟩ ⟨rfl, by decide, by decide, by decide⟩ ⟨Nat.le_of_ble_eq_true rfl, Nat.le_of_ble_eq_true rfl⟩ (by decide) rfl rfl rfl rfl rfl (Nat.le_of_ble_eq_true rfl) dL_law_1444 ?_
        refine r_topi (w := nI 1) hS9.1 ?_
        refine r_iload C dL_law_1447 1 rfl ?_
        refine r_icmpN_eq C 1454 dL_law_1449 (by decide) (by omega) (by omega) (fun h1449 => ?_) (fun h1449 => ?_)
        ·
          refine r_iload C dL_law_1454 1 rfl ?_
          refine r_if_ne C 1470 dL_law_1456 (by decide) (fun h1456 => ?_) (fun h1456 => ?_)
          ·
            refine r_goto C 1584 dL_law_1470 (by decide) ?_
            refine r_lv (lv2 := [(0, .ref b9), (1, .ref (ad 117)), (2, .ref (ad 135)), (3, .ref (ad 145)), (4, .int (nI i9))]) [2, 3, 4, 5, 6] rfl ?_
            exact k9 _ _ hS9.2.2 (by omega)
          · exact absurd h1456 (by decide)
        · exact absurd h1449 (by decide)
      | true =>
        obtain ⟨w, hwa, hwb, p2⟩ := wit_rg (by decide) (by decide) w3
        have hw : w ≤ 1 ∨ (10 ≤ w ∧ w ≤ 13) := Or.inr ⟨hwa, hwb⟩
        refine r_aload_n C dL_law_1406 rfl 1 rfl ?_
        refine r_aload_n C dL_law_1407 rfl 0 rfl ?_
        refine r_iload C dL_law_1408 4 rfl ?_
        refine r_iconst C (nI 1) dL_law_1410 (by decide) ?_
        refine r_iadd C dL_law_1411 ?_
        refine r_topi (nI_add i9 1) ?_
        refine r_sld C hSc (by omega) hL dL_law_1412 ?_
        refine r_topi (w := nI size) p1 ?_
        refine r_aload_n C dL_law_1413 rfl 0 rfl ?_
        refine r_iload C dL_law_1414 4 rfl ?_
        refine r_iconst C (nI 2) dL_law_1416 (by decide) ?_
        refine r_iadd C dL_law_1417 ?_
        refine r_topi (nI_add i9 2) ?_
        refine r_sld C hSc (by omega) hL dL_law_1418 ?_
        refine r_topi (w := nI w) p2 ?_
        refine r_aload_n C dL_law_1419 rfl 3 rfl ?_
        refine r_wcall C hN (u1 := 0) (nA := 4) (by omega) [.ref (ad 117), .int (nI size), .int (nI w), .ref (ad 145)] (w_bestHandle l D cs ad M (M.1 136) n d hg hn8 hm hd4 size bb hbb hs1 hs2 mk hk hz0 (wtz (M.1 136)) (Uz (M.1 136)) (fun c => Sz (hnR (M.1 136) d c bb size d)) (fun c => Hz (hnR (M.1 136) d c bb size d)) (gz_L hz hs2 hbb).1 (gz_L hz hs2 hbb).2 w hw) (tt_W ml_L_174 st_L_bestHandle in_L co_L_bestHandle) ⟨by decide, by decide, by decide⟩ ⟨Nat.le_of_ble_eq_true rfl, Nat.le_of_ble_eq_true rfl⟩ rfl rfl (Nat.le_of_ble_eq_true rfl) dL_law_1420 (fun rw1 Mw qw => ?_)
        obtain ⟨rfl, v9, M9, hp9, hw9b⟩ := qw
        have e1 : Mw.1 = M9.1 := by rw [hw9b]; rfl
        have e2 : Mw.2 145 0 = v9 := by rw [hw9b, mJ_eq, vL_e]
        obtain ⟨hvv, hc⟩ := hp9
        have eM : ∀ i, 135 ≤ i → Mw.1 i = M.1 i := fun i hi => by rw [e1]; exact (show ∀ i, 135 ≤ i → M9.1 i = M.1 i from eM_lk hc) i hi
        have e136 : Mw.1 136 = M.1 136 := eM 136 (by decide)
        refine r_istore C [(5, .int (nI 0)), (0, .ref b9), (1, .ref (ad 117)), (2, .ref (ad 135)), (3, .ref (ad 145)), (4, .int (nI i9))] dL_law_1423 (by decide) rfl ?_
        refine r_aload_n C dL_law_1425 rfl 3 rfl ?_
        refine r_aload_n C dL_law_1426 rfl 1 rfl ?_
        refine r_iload C dL_law_1427 5 rfl ?_
        refine r_iconst C (nI 1) dL_law_1429 (by decide) ?_
        refine r_iadd C dL_law_1430 ?_
        refine r_topi (nI_add i9 1) ?_
        refine r_sld C hSc (by omega) hL dL_law_1431 ?_
        refine r_topi (w := nI size) p1 ?_
        refine r_aload_n C dL_law_1432 rfl 1 rfl ?_
        refine r_iload C dL_law_1433 5 rfl ?_
        refine r_iconst C (nI 2) dL_law_1435 (by decide) ?_
        refine r_iadd C dL_law_1436 ?_
        refine r_topi (nI_add i9 2) ?_
        refine r_sld C hSc (by omega) hL dL_law_1437 ?_
        refine r_topi (w := nI w) p2 ?_
        refine r_callV_l (nA := 2) C (by omega) [.int (nI size), .int (nI w)] (c_X8_bestHandle l D cs ad Mw w n (by rw [e136]; exact hz.1) hn8 d (by rw [e136]; exact hz.2.1) hd4 size bb hbb hs1 hs2 (wtz (M.1 136)) (Uz (M.1 136)) (fun c => Sz (hnR (M.1 136) d c bb size d)) (fun c => Hz (hnR (M.1 136) d c bb size d)) (by rw [e136]; exact (gz_L hz hs2 hbb).1) hw) (tt_V ml_L_176 im_X8_bestHandle se_X8_bestHandle in_X8 co_X8_bestHandle) ⟨rfl, rfl⟩ ⟨rfl, by decide, by decide, by decide⟩ ⟨Nat.le_of_ble_eq_true rfl, Nat.le_of_ble_eq_true rfl⟩ (by decide) rfl rfl rfl rfl rfl (Nat.le_of_ble_eq_true rfl) dL_law_1438 (fun ru1 Mu1 qu1 => ?_)
        rw [e136] at qu1
        obtain ⟨hr1, hm1⟩ := qu1
        have hS9 : Mu1.1 135 7 = nI 0 ∧ Mu1.2 145 0 = _ ∧ RR Mu1 := S_lk hX hc e1 e2 (SQ.S hm1)
        have hv9 : Mu1.2 145 0 = ru1 := by rw [hS9.2.1, hvv, hr1]
        refine r_lstore C [(6, .long ru1), (5, .int (nI 0)), (0, .ref b9), (1, .ref (ad 117)), (2, .ref (ad 135)), (3, .ref (ad 145)), (4, .int (nI i9))] dL_law_1441 (by decide) rfl ?_
        refine r_aload_n C dL_law_1443 rfl 4 rfl ?_
        refine r_pcallV_i (nA := 0) C (by omega) [] (c_X8_thrown l D cs ad Mu1) (tt_V ml_L_98 im_X8_thrown se_X8_thrown in_X8 co_X8_thrown) ⟨rfl, rfl⟩ ⟨rfl, by decide, by decide, by decide⟩ ⟨Nat.le_of_ble_eq_true rfl, Nat.le_of_ble_eq_true rfl⟩ (by decide) rfl rfl rfl rfl rfl (Nat.le_of_ble_eq_true rfl) dL_law_1444 ?_
        refine r_topi (w := nI 0) hS9.1 ?_
        refine r_iload C dL_law_1447 1 rfl ?_
        refine r_icmpN_eq C 1454 dL_law_1449 (by decide) (by omega) (by omega) (fun h1449 => ?_) (fun h1449 => ?_)
        ·
          refine r_iload C dL_law_1454 1 rfl ?_
          refine r_if_ne C 1470 dL_law_1456 (by decide) (fun h1456 => ?_) (fun h1456 => ?_)
          · exact absurd rfl h1456
          ·
            refine r_aload_n C dL_law_1459 rfl 5 rfl ?_
            refine r_iconst C (nI 0) dL_law_1460 (by decide) ?_
            refine r_lald C (id := 145) (n := 1) (a := 0) (by decide) rfl (by decide) (by decide) dL_law_1461 ?_
            refine r_topl (w := ru1) hv9 ?_
            refine r_lload C dL_law_1462 0 rfl ?_
            refine r_lcmp C dL_law_1464 ?_
            refine r_if_eq C 1470 dL_law_1465 (by decide) (fun h1465 => ?_) (fun h1465 => ?_)
            ·
              rw [lgc_eq] at h1465
              refine r_goto C 1584 dL_law_1470 (by decide) ?_
              refine r_lv (lv2 := [(0, .ref b9), (1, .ref (ad 117)), (2, .ref (ad 135)), (3, .ref (ad 145)), (4, .int (nI i9))]) [2, 3, 4, 5, 6] rfl ?_
              exact k9 _ _ hS9.2.2 (by omega)
            · exact absurd (lgcT _) h1465
        · exact absurd h1449 (by decide)
    | true =>
      obtain ⟨w, -, hwb, p2⟩ := wit_rg (by decide) (by decide) w2
      have hw : w ≤ 1 ∨ (10 ≤ w ∧ w ≤ 13) := Or.inl hwb
      refine r_aload_n C dL_law_1406 rfl 1 rfl ?_
      refine r_aload_n C dL_law_1407 rfl 0 rfl ?_
      refine r_iload C dL_law_1408 4 rfl ?_
      refine r_iconst C (nI 1) dL_law_1410 (by decide) ?_
      refine r_iadd C dL_law_1411 ?_
      refine r_topi (nI_add i9 1) ?_
      refine r_sld C hSc (by omega) hL dL_law_1412 ?_
      refine r_topi (w := nI size) p1 ?_
      refine r_aload_n C dL_law_1413 rfl 0 rfl ?_
      refine r_iload C dL_law_1414 4 rfl ?_
      refine r_iconst C (nI 2) dL_law_1416 (by decide) ?_
      refine r_iadd C dL_law_1417 ?_
      refine r_topi (nI_add i9 2) ?_
      refine r_sld C hSc (by omega) hL dL_law_1418 ?_
      refine r_topi (w := nI w) p2 ?_
      refine r_aload_n C dL_law_1419 rfl 3 rfl ?_
      refine r_wcall C hN (u1 := 0) (nA := 4) (by omega) [.ref (ad 117), .int (nI size), .int (nI w), .ref (ad 145)] (w_bestHandle l D cs ad M (M.1 136) n d hg hn8 hm hd4 size bb hbb hs1 hs2 mk hk hz0 (wtz (M.1 136)) (Uz (M.1 136)) (fun c => Sz (hnR (M.1 136) d c bb size d)) (fun c => Hz (hnR (M.1 136) d c bb size d)) (gz_L hz hs2 hbb).1 (gz_L hz hs2 hbb).2 w hw) (tt_W ml_L_174 st_L_bestHandle in_L co_L_bestHandle) ⟨by decide, by decide, by decide⟩ ⟨Nat.le_of_ble_eq_true rfl, Nat.le_of_ble_eq_true rfl⟩ rfl rfl (Nat.le_of_ble_eq_true rfl) dL_law_1420 (fun rw1 Mw qw => ?_)
      obtain ⟨rfl, v9, M9, hp9, hw9b⟩ := qw
      have e1 : Mw.1 = M9.1 := by rw [hw9b]; rfl
      have e2 : Mw.2 145 0 = v9 := by rw [hw9b, mJ_eq, vL_e]
      obtain ⟨hvv, hc⟩ := hp9
      have eM : ∀ i, 135 ≤ i → Mw.1 i = M.1 i := fun i hi => by rw [e1]; exact (show ∀ i, 135 ≤ i → M9.1 i = M.1 i from eM_lk hc) i hi
      have e136 : Mw.1 136 = M.1 136 := eM 136 (by decide)
      refine r_istore C [(5, .int (nI 0)), (0, .ref b9), (1, .ref (ad 117)), (2, .ref (ad 135)), (3, .ref (ad 145)), (4, .int (nI i9))] dL_law_1423 (by decide) rfl ?_
      refine r_aload_n C dL_law_1425 rfl 3 rfl ?_
      refine r_aload_n C dL_law_1426 rfl 1 rfl ?_
      refine r_iload C dL_law_1427 5 rfl ?_
      refine r_iconst C (nI 1) dL_law_1429 (by decide) ?_
      refine r_iadd C dL_law_1430 ?_
      refine r_topi (nI_add i9 1) ?_
      refine r_sld C hSc (by omega) hL dL_law_1431 ?_
      refine r_topi (w := nI size) p1 ?_
      refine r_aload_n C dL_law_1432 rfl 1 rfl ?_
      refine r_iload C dL_law_1433 5 rfl ?_
      refine r_iconst C (nI 2) dL_law_1435 (by decide) ?_
      refine r_iadd C dL_law_1436 ?_
      refine r_topi (nI_add i9 2) ?_
      refine r_sld C hSc (by omega) hL dL_law_1437 ?_
      refine r_topi (w := nI w) p2 ?_
      refine r_callV_l (nA := 2) C (by omega) [.int (nI size), .int (nI w)] (c_X8_bestHandle l D cs ad Mw w n (by rw [e136]; exact hz.1) hn8 d (by rw [e136]; exact hz.2.1) hd4 size bb hbb hs1 hs2 (wtz (M.1 136)) (Uz (M.1 136)) (fun c => Sz (hnR (M.1 136) d c bb size d)) (fun c => Hz (hnR (M.1 136) d c bb size d)) (by rw [e136]; exact (gz_L hz hs2 hbb).1) hw) (tt_V ml_L_176 im_X8_bestHandle se_X8_bestHandle in_X8 co_X8_bestHandle) ⟨rfl, rfl⟩ ⟨rfl, by decide, by decide, by decide⟩ ⟨Nat.le_of_ble_eq_true rfl, Nat.le_of_ble_eq_true rfl⟩ (by decide) rfl rfl rfl rfl rfl (Nat.le_of_ble_eq_true rfl) dL_law_1438 (fun ru1 Mu1 qu1 => ?_)
      rw [e136] at qu1
      obtain ⟨hr1, hm1⟩ := qu1
      have hS9 : Mu1.1 135 7 = nI 0 ∧ Mu1.2 145 0 = _ ∧ RR Mu1 := S_lk hX hc e1 e2 (SQ.S hm1)
      have hv9 : Mu1.2 145 0 = ru1 := by rw [hS9.2.1, hvv, hr1]
      refine r_lstore C [(6, .long ru1), (5, .int (nI 0)), (0, .ref b9), (1, .ref (ad 117)), (2, .ref (ad 135)), (3, .ref (ad 145)), (4, .int (nI i9))] dL_law_1441 (by decide) rfl ?_
      refine r_aload_n C dL_law_1443 rfl 4 rfl ?_
      refine r_pcallV_i (nA := 0) C (by omega) [] (c_X8_thrown l D cs ad Mu1) (tt_V ml_L_98 im_X8_thrown se_X8_thrown in_X8 co_X8_thrown) ⟨rfl, rfl⟩ ⟨rfl, by decide, by decide, by decide⟩ ⟨Nat.le_of_ble_eq_true rfl, Nat.le_of_ble_eq_true rfl⟩ (by decide) rfl rfl rfl rfl rfl (Nat.le_of_ble_eq_true rfl) dL_law_1444 ?_
      refine r_topi (w := nI 0) hS9.1 ?_
      refine r_iload C dL_law_1447 1 rfl ?_
      refine r_icmpN_eq C 1454 dL_law_1449 (by decide) (by omega) (by omega) (fun h1449 => ?_) (fun h1449 => ?_)
      ·
        refine r_iload C dL_law_1454 1 rfl ?_
        refine r_if_ne C 1470 dL_law_1456 (by decide) (fun h1456 => ?_) (fun h1456 => ?_)
        · exact absurd rfl h1456
        ·
          refine r_aload_n C dL_law_1459 rfl 5 rfl ?_
          refine r_iconst C (nI 0) dL_law_1460 (by decide) ?_
          refine r_lald C (id := 145) (n := 1) (a := 0) (by decide) rfl (by decide) (by decide) dL_law_1461 ?_
          refine r_topl (w := ru1) hv9 ?_
          refine r_lload C dL_law_1462 0 rfl ?_
          refine r_lcmp C dL_law_1464 ?_
          refine r_if_eq C 1470 dL_law_1465 (by decide) (fun h1465 => ?_) (fun h1465 => ?_)
          ·
            rw [lgc_eq] at h1465
            refine r_goto C 1584 dL_law_1470 (by decide) ?_
            refine r_lv (lv2 := [(0, .ref b9), (1, .ref (ad 117)), (2, .ref (ad 135)), (3, .ref (ad 145)), (4, .int (nI i9))]) [2, 3, 4, 5, 6] rfl ?_
            exact k9 _ _ hS9.2.2 (by omega)
          · exact absurd (lgcT _) h1465
      · exact absurd h1449 (by decide)
set_option maxRecDepth 100000 in
set_option maxHeartbeats 4000000 in
theorem LC_count {l : Launch} {D : va_G} {cs : Nat → ClassId} {ad : Nat → Nat} {κ : Kx} {u U : Nat} {M : Mm} (C : CX D cs ad cL_law 9 RL 2048 84000 U κ) (hN : CN ad κ) (hfl : l.stackTraces = false) {b9 L i9 : Nat} {xs : Nat → Int32} (hSc : CSX ad b9 L xs κ) (hL : L ≤ 2048) (hj : i9 + 4 ≤ L) {s9 lt len n d : Nat} {ct : Nat → Nat} (hX : RX M s9 lt len ct n d) (hu : u + 1 ≤ U) (k9 : ∀ (u2 : Nat) (M2 : Mm), RR M2 → u2 ≤ u + 1 → VV l D cs ad 9 κ u2 M2 1584 [(0, .ref b9), (1, .ref (ad 117)), (2, .ref (ad 135)), (3, .ref (ad 145)), (4, .int (nI i9))] []) : VV l D cs ad 9 κ u M 1473 [(0, .ref b9), (1, .ref (ad 117)), (2, .ref (ad 135)), (3, .ref (ad 145)), (4, .int (nI i9))] [] := by
  obtain ⟨hz, hg, hpm, hks, hkh, hkt, hms, hml, htx⟩ := (show RX M s9 lt len ct n d from hX)
  obtain ⟨hzn, hzd, ⟨hn1, hn8⟩, ⟨hd1, hd4⟩, ⟨mk, hk⟩, hsy, hw9, hlb, hhb, hlz, hz0⟩ := (show gz (M.1 136) n d from hz)
  obtain ⟨hlt, hlt6, hs, hs6, hhi⟩ := (show KH M (fun j p => M.1 137 (55 * j + p)) s9 lt from hkh)
  obtain ⟨hlen, hl60, hct⟩ := (show KT M ct len from hkt)
  have hm := gk_gm hn8 hk
  obtain ⟨e0, hq0⟩ := gz_gq hz
  cases w1 : (wit (xs (i9 + 1)) (nI 0) (nI 11)) with
  | false =>
    refine r_aload_n C dL_law_1473 rfl 1 rfl ?_
    refine r_aload_n C dL_law_1474 rfl 0 rfl ?_
    refine r_iload C dL_law_1475 4 rfl ?_
    refine r_iconst C (nI 1) dL_law_1477 (by decide) ?_
    refine r_iadd C dL_law_1478 ?_
    refine r_topi (nI_add i9 1) ?_
    refine r_sld C hSc (by omega) hL dL_law_1479 ?_
    refine r_aload_n C dL_law_1480 rfl 3 rfl ?_
    refine r_wcall C hN (u1 := 1) (nA := 3) (by omega) [.ref (ad 117), .int (xs (i9 + 1)), .ref (ad 145)] (w_countX l D cs ad hfl M (xs (i9 + 1)) w1) (tt_W ml_L_177 st_L_count in_L co_L_count) ⟨by decide, by decide, by decide⟩ ⟨Nat.le_of_ble_eq_true rfl, Nat.le_of_ble_eq_true rfl⟩ rfl rfl (Nat.le_of_ble_eq_true rfl) dL_law_1481 (fun rw1 Mw qw => ?_)
    obtain ⟨rfl, hc⟩ := qw
    have e1 : Mw.1 = Mw.1 := rfl
    have e2 : Mw.2 145 0 = Mw.2 145 0 := rfl
    have eM : ∀ i, 135 ≤ i → Mw.1 i = M.1 i := eM_lk (lk_eq hc)
    have e136 : Mw.1 136 = M.1 136 := eM 136 (by decide)
    refine r_istore C [(5, .int (nI 1)), (0, .ref b9), (1, .ref (ad 117)), (2, .ref (ad 135)), (3, .ref (ad 145)), (4, .int (nI i9))] dL_law_1484 (by decide) rfl ?_
    refine r_aload_n C dL_law_1486 rfl 3 rfl ?_
    refine r_aload_n C dL_law_1487 rfl 1 rfl ?_
    refine r_iload C dL_law_1488 5 rfl ?_
    refine r_iconst C (nI 1) dL_law_1490 (by decide) ?_
    refine r_iadd C dL_law_1491 ?_
    refine r_topi (nI_add i9 1) ?_
    refine r_sld C hSc (by omega) hL dL_law_1492 ?_
    refine r_callV_i (nA := 1) C (by omega) [.int (xs (i9 + 1))] (c_X8_countX l D cs ad Mw (xs (i9 + 1)) w1) (tt_V ml_L_179 im_X8_count se_X8_count in_X8 co_X8_count) ⟨rfl, rfl⟩ ⟨rfl, by decide, by decide, by decide⟩ ⟨Nat.le_of_ble_eq_true rfl, Nat.le_of_ble_eq_true rfl⟩ (by decide) rfl rfl rfl rfl rfl (Nat.le_of_ble_eq_true rfl) dL_law_1493 (fun ru1 Mu1 qu1 => ?_)
    obtain ⟨hr1, hm1⟩ := qu1
    have hS9 : Mu1.1 135 7 = nI 1 ∧ Mu1.2 145 0 = _ ∧ RR Mu1 := S_lk hX (lk_eq hc) e1 e2 (show SQ (mI Mw 135 7 (nI 1)) Mu1 by rw [hm1]; exact SQ.rf _)
    refine r_istore C [(6, .int ru1), (5, .int (nI 1)), (0, .ref b9), (1, .ref (ad 117)), (2, .ref (ad 135)), (3, .ref (ad 145)), (4, .int (nI i9))] dL_law_1496 (by decide) rfl ?_
    refine r_aload_n C dL_law_1498 rfl 4 rfl ?_
    refine r_pcallV_i (nA := 0) C (by omega) [] (c_X8_thrown l D cs ad Mu1) (tt_V ml_L_98 im_X8_thrown se_X8_thrown in_X8 co_X8_thrown) ⟨rfl, rfl⟩ ⟨rfl, by decide, by decide, by decide⟩ ⟨Nat.le_of_ble_eq_true rfl, Nat.le_of_ble_eq_true rfl⟩ (by decide) rfl rfl rfl rfl rfl (Nat.le_of_ble_eq_true rfl) dL_law_1499 ?_
    refine r_topi (w := nI 1) hS9.1 ?_
    refine r_iload C dL_law_1502 1 rfl ?_
    refine r_icmpN_eq C 1509 dL_law_1504 (by decide) (by omega) (by omega) (fun h1504 => ?_) (fun h1504 => ?_)
    ·
      refine r_iload C dL_law_1509 1 rfl ?_
      refine r_if_ne C 1526 dL_law_1511 (by decide) (fun h1511 => ?_) (fun h1511 => ?_)
      ·
        refine r_goto C 1584 dL_law_1526 (by decide) ?_
        refine r_lv (lv2 := [(0, .ref b9), (1, .ref (ad 117)), (2, .ref (ad 135)), (3, .ref (ad 145)), (4, .int (nI i9))]) [2, 3, 4, 5, 6] rfl ?_
        exact k9 _ _ hS9.2.2 (by omega)
      · exact absurd h1511 (by decide)
    · exact absurd h1504 (by decide)
  | true =>
    obtain ⟨k, -, hk9, p1⟩ := wit_rg (by decide) (by decide) w1
    refine r_aload_n C dL_law_1473 rfl 1 rfl ?_
    refine r_aload_n C dL_law_1474 rfl 0 rfl ?_
    refine r_iload C dL_law_1475 4 rfl ?_
    refine r_iconst C (nI 1) dL_law_1477 (by decide) ?_
    refine r_iadd C dL_law_1478 ?_
    refine r_topi (nI_add i9 1) ?_
    refine r_sld C hSc (by omega) hL dL_law_1479 ?_
    refine r_topi (w := nI k) p1 ?_
    refine r_aload_n C dL_law_1480 rfl 3 rfl ?_
    refine r_wcall C hN (u1 := 0) (nA := 3) (by omega) [.ref (ad 117), .int (nI k), .ref (ad 145)] (w_count l D cs ad M (M.1 136) n d hg hn8 hm mk (wtz (M.1 136)) hk hw9 hsy hn1 hpm (fun k hk => by rw [(hks k hk).1]; exact (hks k hk).2.imp (fun w => w) (fun w => w.1)) k hk9) (tt_W ml_L_177 st_L_count in_L co_L_count) ⟨by decide, by decide, by decide⟩ ⟨Nat.le_of_ble_eq_true rfl, Nat.le_of_ble_eq_true rfl⟩ rfl rfl (Nat.le_of_ble_eq_true rfl) dL_law_1481 (fun rw1 Mw qw => ?_)
    obtain ⟨rfl, v9, M9, hp9, hw9b⟩ := qw
    have e1 : Mw.1 = M9.1 := by rw [hw9b]; rfl
    have e2 : Mw.2 145 0 = v9.toInt64 := by rw [hw9b, mJ_eq, vL_e]
    obtain ⟨hvv, hc⟩ := hp9
    have eM : ∀ i, 135 ≤ i → Mw.1 i = M.1 i := fun i hi => by rw [e1]; exact (show ∀ i, 135 ≤ i → M9.1 i = M.1 i from eM_lk hc) i hi
    have e136 : Mw.1 136 = M.1 136 := eM 136 (by decide)
    refine r_istore C [(5, .int (nI 0)), (0, .ref b9), (1, .ref (ad 117)), (2, .ref (ad 135)), (3, .ref (ad 145)), (4, .int (nI i9))] dL_law_1484 (by decide) rfl ?_
    refine r_aload_n C dL_law_1486 rfl 3 rfl ?_
    refine r_aload_n C dL_law_1487 rfl 1 rfl ?_
    refine r_iload C dL_law_1488 5 rfl ?_
    refine r_iconst C (nI 1) dL_law_1490 (by decide) ?_
    refine r_iadd C dL_law_1491 ?_
    refine r_topi (nI_add i9 1) ?_
    refine r_sld C hSc (by omega) hL dL_law_1492 ?_
    refine r_topi (w := nI k) p1 ?_
    refine r_callV_i (nA := 1) C (by omega) [.int (nI k)] (c_X8_count l D cs ad Mw k n (by rw [e136]; exact hz.1) hn8 d (by rw [e136]; exact hz.2.1) hd4 hn1 (by rw [e136]; exact co_ex _ hn8 hn1) hk9) (tt_V ml_L_179 im_X8_count se_X8_count in_X8 co_X8_count) ⟨rfl, rfl⟩ ⟨rfl, by decide, by decide, by decide⟩ ⟨Nat.le_of_ble_eq_true rfl, Nat.le_of_ble_eq_true rfl⟩ (by decide) rfl rfl rfl rfl rfl (Nat.le_of_ble_eq_true rfl) dL_law_1493 (fun ru1 Mu1 qu1 => ?_)
    rw [e136, eM 139 (by decide), eM 135 (by decide)] at qu1
    obtain ⟨hr1, hm1⟩ := qu1
    have hS9 : Mu1.1 135 7 = nI 0 ∧ Mu1.2 145 0 = _ ∧ RR Mu1 := S_lk hX hc e1 e2 (SQ.S hm1)
    have hv9 : Mu1.2 145 0 = ru1.toInt64 := by rw [hS9.2.1, hvv, hr1, ct_cg (hks 0 (by decide)).1 (hks 1 (by decide)).1 (hs.trans hms.symm)]
    refine r_istore C [(6, .int ru1), (5, .int (nI 0)), (0, .ref b9), (1, .ref (ad 117)), (2, .ref (ad 135)), (3, .ref (ad 145)), (4, .int (nI i9))] dL_law_1496 (by decide) rfl ?_
    refine r_aload_n C dL_law_1498 rfl 4 rfl ?_
    refine r_pcallV_i (nA := 0) C (by omega) [] (c_X8_thrown l D cs ad Mu1) (tt_V ml_L_98 im_X8_thrown se_X8_thrown in_X8 co_X8_thrown) ⟨rfl, rfl⟩ ⟨rfl, by decide, by decide, by decide⟩ ⟨Nat.le_of_ble_eq_true rfl, Nat.le_of_ble_eq_true rfl⟩ (by decide) rfl rfl rfl rfl rfl (Nat.le_of_ble_eq_true rfl) dL_law_1499 ?_
    refine r_topi (w := nI 0) hS9.1 ?_
    refine r_iload C dL_law_1502 1 rfl ?_
    refine r_icmpN_eq C 1509 dL_law_1504 (by decide) (by omega) (by omega) (fun h1504 => ?_) (fun h1504 => ?_)
    ·
      refine r_iload C dL_law_1509 1 rfl ?_
      refine r_if_ne C 1526 dL_law_1511 (by decide) (fun h1511 => ?_) (fun h1511 => ?_)
      · exact absurd rfl h1511
      ·
        refine r_aload_n C dL_law_1514 rfl 5 rfl ?_
        refine r_iconst C (nI 0) dL_law_1515 (by decide) ?_
        refine r_lald C (id := 145) (n := 1) (a := 0) (by decide) rfl (by decide) (by decide) dL_law_1516 ?_
        refine r_topl (w := ru1.toInt64) hv9 ?_
        refine r_iload C dL_law_1517 0 rfl ?_
        refine r_i2l C dL_law_1519 ?_
        refine r_lcmp C dL_law_1520 ?_
        refine r_if_eq C 1526 dL_law_1521 (by decide) (fun h1521 => ?_) (fun h1521 => ?_)
        ·
          rw [lgc_eq] at h1521
          refine r_goto C 1584 dL_law_1526 (by decide) ?_
          refine r_lv (lv2 := [(0, .ref b9), (1, .ref (ad 117)), (2, .ref (ad 135)), (3, .ref (ad 145)), (4, .int (nI i9))]) [2, 3, 4, 5, 6] rfl ?_
          exact k9 _ _ hS9.2.2 (by omega)
        · exact absurd (lgcT _) h1521
    · exact absurd h1504 (by decide)
