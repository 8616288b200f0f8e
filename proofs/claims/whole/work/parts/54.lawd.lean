/-! ===== the law's cases, 3 (written by wip/whole/gen/lawd.py) ===== -/
set_option maxRecDepth 100000 in
set_option maxHeartbeats 4000000 in
theorem LC_complement {l : Launch} {D : va_G} {cs : Nat → ClassId} {ad : Nat → Nat} {κ : Kx} {u U : Nat} {M : Mm} (C : CX D cs ad cL_law 9 RL 2048 84000 U κ) (hN : CN ad κ) (hfl : l.stackTraces = false) {b9 L i9 : Nat} {xs : Nat → Int32} (hSc : CSX ad b9 L xs κ) (hL : L ≤ 2048) (hj : i9 + 4 ≤ L) {s9 lt len n d : Nat} {ct : Nat → Nat} (hX : RX M s9 lt len ct n d) (hu : u + 1 ≤ U) (k9 : ∀ (u2 : Nat) (M2 : Mm), RR M2 → u2 ≤ u + 1 → VV l D cs ad 9 κ u2 M2 1584 [(0, .ref b9), (1, .ref (ad 117)), (2, .ref (ad 135)), (3, .ref (ad 145)), (4, .int (nI i9))] []) : VV l D cs ad 9 κ u M 392 [(0, .ref b9), (1, .ref (ad 117)), (2, .ref (ad 135)), (3, .ref (ad 145)), (4, .int (nI i9))] [] := by
  obtain ⟨hz, hg, hpm, hks, hkh, hkt, hms, hml, htx⟩ := (show RX M s9 lt len ct n d from hX)
  obtain ⟨hzn, hzd, ⟨hn1, hn8⟩, ⟨hd1, hd4⟩, ⟨mk, hk⟩, hsy, hw9, hlb, hhb, hlz, hz0⟩ := (show gz (M.1 136) n d from hz)
  obtain ⟨hlt, hlt6, hs, hs6, hhi⟩ := (show KH M (fun j p => M.1 137 (55 * j + p)) s9 lt from hkh)
  obtain ⟨hlen, hl60, hct⟩ := (show KT M ct len from hkt)
  have hm := gk_gm hn8 hk
  obtain ⟨e0, hq0⟩ := gz_gq hz
  refine r_aload_n C dL_law_392 rfl 1 rfl ?_
  refine r_ncallV_i (nA := 0) C hN (by omega) [] (c_X7_complement l D cs ad M (M.1 136) n d hg hn8 lt hlt hlt6 s9 hs hs6 (gz_gm (gq_gz (gq_cp hq0)))) (tt_V ml_L_108 im_X7_complement se_X7_complement in_X7 co_X7_complement) ⟨rfl, rfl⟩ ⟨rfl, by decide, by decide, by decide⟩ ⟨Nat.le_of_ble_eq_true rfl, Nat.le_of_ble_eq_true rfl⟩ (by decide) rfl rfl rfl rfl rfl (Nat.le_of_ble_eq_true rfl) dL_law_393 (fun rw1 Mw qw => ?_)
  obtain ⟨hvv, hc⟩ := qw
  have eM : ∀ i, 135 ≤ i → Mw.1 i = M.1 i := eM_ch hlt6 hc
  have e136 : Mw.1 136 = M.1 136 := eM 136 (by decide)
  refine r_aload_n C dL_law_396 rfl 2 rfl ?_
  refine r_callV_i (nA := 0) C (by omega) [] (c_X8_complement l D cs ad Mw n (by rw [e136]; exact hz.1) hn8 s9 (by rw [eM 135 (by decide)]; exact hms) hs6) (tt_V ml_L_111 im_X8_complement se_X8_complement in_X8 co_X8_complement) ⟨rfl, rfl⟩ ⟨rfl, by decide, by decide, by decide⟩ ⟨Nat.le_of_ble_eq_true rfl, Nat.le_of_ble_eq_true rfl⟩ (by decide) rfl rfl rfl rfl rfl (Nat.le_of_ble_eq_true rfl) dL_law_397 (fun ru1 Mu1 qu1 => ?_)
  rw [e136] at qu1
  obtain ⟨hr1, hm1⟩ := qu1
  have hRR : RR Mu1 := (S_ch hX hc (gq_gz (gq_cp hq0)) (fun _ _ => rfl) (cp_54 hn8) (Mu := Mw) rfl rfl (by rw [hm1]; exact (ms_0 Mw s9).A) (fun _ _ => rfl)).2.2
  have hv9 : rw1 = ru1 := hvv.trans hr1.symm
  refine r_icmp_eq C 1584 dL_law_400 (by decide) (fun h400 => ?_) (fun h400 => ?_)
  ·
    refine r_lv (lv2 := [(0, .ref b9), (1, .ref (ad 117)), (2, .ref (ad 135)), (3, .ref (ad 145)), (4, .int (nI i9))]) [0, 1, 2, 3, 4] rfl ?_
    exact k9 _ _ hRR (by omega)
  · exact absurd hv9 h400
set_option maxRecDepth 100000 in
set_option maxHeartbeats 4000000 in
theorem LC_clearBuffer {l : Launch} {D : va_G} {cs : Nat → ClassId} {ad : Nat → Nat} {κ : Kx} {u U : Nat} {M : Mm} (C : CX D cs ad cL_law 9 RL 2048 84000 U κ) (hN : CN ad κ) (hfl : l.stackTraces = false) {b9 L i9 : Nat} {xs : Nat → Int32} (hSc : CSX ad b9 L xs κ) (hL : L ≤ 2048) (hj : i9 + 4 ≤ L) {s9 lt len n d : Nat} {ct : Nat → Nat} (hX : RX M s9 lt len ct n d) (hu : u + 1 ≤ U) (k9 : ∀ (u2 : Nat) (M2 : Mm), RR M2 → u2 ≤ u + 1 → VV l D cs ad 9 κ u2 M2 1584 [(0, .ref b9), (1, .ref (ad 117)), (2, .ref (ad 135)), (3, .ref (ad 145)), (4, .int (nI i9))] []) : VV l D cs ad 9 κ u M 821 [(0, .ref b9), (1, .ref (ad 117)), (2, .ref (ad 135)), (3, .ref (ad 145)), (4, .int (nI i9))] [] := by
  obtain ⟨hz, hg, hpm, hks, hkh, hkt, hms, hml, htx⟩ := (show RX M s9 lt len ct n d from hX)
  obtain ⟨hzn, hzd, ⟨hn1, hn8⟩, ⟨hd1, hd4⟩, ⟨mk, hk⟩, hsy, hw9, hlb, hhb, hlz, hz0⟩ := (show gz (M.1 136) n d from hz)
  obtain ⟨hlt, hlt6, hs, hs6, hhi⟩ := (show KH M (fun j p => M.1 137 (55 * j + p)) s9 lt from hkh)
  obtain ⟨hlen, hl60, hct⟩ := (show KT M ct len from hkt)
  have hm := gk_gm hn8 hk
  obtain ⟨e0, hq0⟩ := gz_gq hz
  refine r_aload_n C dL_law_821 rfl 1 rfl ?_
  refine r_ncallV_i (nA := 0) C hN (by omega) [] (c_X7_clearBuffer l D cs ad M len hlen hl60) (tt_V ml_L_136 im_X7_clearBuffer se_X7_clearBuffer in_X7 co_X7_clearBuffer) ⟨rfl, rfl⟩ ⟨rfl, by decide, by decide, by decide⟩ ⟨Nat.le_of_ble_eq_true rfl, Nat.le_of_ble_eq_true rfl⟩ (by decide) rfl rfl rfl rfl rfl (Nat.le_of_ble_eq_true rfl) dL_law_822 (fun rw1 Mw qw => ?_)
  obtain ⟨hvv, hc⟩ := qw
  have eM : ∀ i, 135 ≤ i → Mw.1 i = M.1 i := by rw [hc]; exact fun i hi => mI_ne _ (by omega)
  have e136 : Mw.1 136 = M.1 136 := eM 136 (by decide)
  refine r_aload_n C dL_law_825 rfl 2 rfl ?_
  refine r_callV_i (nA := 0) C (by omega) [] (c_X8_clearBuffer l D cs ad Mw len (by rw [eM 135 (by decide)]; exact hml) hl60) (tt_V ml_L_139 im_X8_clearBuffer se_X8_clearBuffer in_X8 co_X8_clearBuffer) ⟨rfl, rfl⟩ ⟨rfl, by decide, by decide, by decide⟩ ⟨Nat.le_of_ble_eq_true rfl, Nat.le_of_ble_eq_true rfl⟩ (by decide) rfl rfl rfl rfl rfl (Nat.le_of_ble_eq_true rfl) dL_law_826 (fun ru1 Mu1 qu1 => ?_)
  obtain ⟨hr1, hm1⟩ := qu1
  have hRR : RR Mu1 := S_cl hX hc hm1
  have hv9 : rw1 = ru1 := hvv.trans hr1.symm
  refine r_icmp_eq C 1584 dL_law_829 (by decide) (fun h829 => ?_) (fun h829 => ?_)
  ·
    refine r_lv (lv2 := [(0, .ref b9), (1, .ref (ad 117)), (2, .ref (ad 135)), (3, .ref (ad 145)), (4, .int (nI i9))]) [0, 1, 2, 3, 4] rfl ?_
    exact k9 _ _ hRR (by omega)
  · exact absurd hv9 h829
set_option maxRecDepth 100000 in
set_option maxHeartbeats 4000000 in
theorem LC_firstError {l : Launch} {D : va_G} {cs : Nat → ClassId} {ad : Nat → Nat} {κ : Kx} {u U : Nat} {M : Mm} (C : CX D cs ad cL_law 9 RL 2048 84000 U κ) (hN : CN ad κ) (hfl : l.stackTraces = false) {b9 L i9 : Nat} {xs : Nat → Int32} (hSc : CSX ad b9 L xs κ) (hL : L ≤ 2048) (hj : i9 + 4 ≤ L) {s9 lt len n d : Nat} {ct : Nat → Nat} (hX : RX M s9 lt len ct n d) (hu : u + 1 ≤ U) (k9 : ∀ (u2 : Nat) (M2 : Mm), RR M2 → u2 ≤ u + 1 → VV l D cs ad 9 κ u2 M2 1584 [(0, .ref b9), (1, .ref (ad 117)), (2, .ref (ad 135)), (3, .ref (ad 145)), (4, .int (nI i9))] []) : VV l D cs ad 9 κ u M 834 [(0, .ref b9), (1, .ref (ad 117)), (2, .ref (ad 135)), (3, .ref (ad 145)), (4, .int (nI i9))] [] := by
  obtain ⟨hz, hg, hpm, hks, hkh, hkt, hms, hml, htx⟩ := (show RX M s9 lt len ct n d from hX)
  obtain ⟨hzn, hzd, ⟨hn1, hn8⟩, ⟨hd1, hd4⟩, ⟨mk, hk⟩, hsy, hw9, hlb, hhb, hlz, hz0⟩ := (show gz (M.1 136) n d from hz)
  obtain ⟨hlt, hlt6, hs, hs6, hhi⟩ := (show KH M (fun j p => M.1 137 (55 * j + p)) s9 lt from hkh)
  obtain ⟨hlen, hl60, hct⟩ := (show KT M ct len from hkt)
  have hm := gk_gm hn8 hk
  obtain ⟨e0, hq0⟩ := gz_gq hz
  refine r_aload_n C dL_law_834 rfl 1 rfl ?_
  refine r_ncallV_i (nA := 0) C hN (by omega) [] (c_X7_firstError l D cs ad M (M.1 136) n d hg hn8 hn1 ct len (fun k hk => ⟨(hct k hk).1, (hct k hk).2.2⟩) hlen hl60) (tt_V ml_L_140 im_X7_firstError se_X7_firstError in_X7 co_X7_firstError) ⟨rfl, rfl⟩ ⟨rfl, by decide, by decide, by decide⟩ ⟨Nat.le_of_ble_eq_true rfl, Nat.le_of_ble_eq_true rfl⟩ (by decide) rfl rfl rfl rfl rfl (Nat.le_of_ble_eq_true rfl) dL_law_835 (fun rw1 Mw qw => ?_)
  obtain ⟨hvv, hc⟩ := qw
  have eM : ∀ i, 135 ≤ i → Mw.1 i = M.1 i := eM_lk (lk_eq hc)
  have e136 : Mw.1 136 = M.1 136 := eM 136 (by decide)
  refine r_aload_n C dL_law_838 rfl 2 rfl ?_
  refine r_callV_i (nA := 0) C (by omega) [] (c_X8_firstError l D cs ad Mw n (by rw [e136]; exact hz.1) hn8 len (by rw [eM 135 (by decide)]; exact hml) hl60) (tt_V ml_L_143 im_X8_firstError se_X8_firstError in_X8 co_X8_firstError) ⟨rfl, rfl⟩ ⟨rfl, by decide, by decide, by decide⟩ ⟨Nat.le_of_ble_eq_true rfl, Nat.le_of_ble_eq_true rfl⟩ (by decide) rfl rfl rfl rfl rfl (Nat.le_of_ble_eq_true rfl) dL_law_839 (fun ru1 Mu1 qu1 => ?_)
  obtain ⟨hr1, hm1⟩ := qu1
  have hRR : RR Mu1 := (S_lk hX (lk_eq hc) (Mu := Mw) rfl rfl (show SQ (mI Mw 135 7 (nI 0)) Mu1 by rw [hm1]; exact SQ.rf _)).2.2
  have hv9 : rw1 = ru1 := by rw [hvv, hr1, eM 140 (by decide), rut_fi hn1 hn8 (fun k hk => ⟨htx k hk, (hct k hk).2⟩)]
  refine r_icmp_eq C 1584 dL_law_842 (by decide) (fun h842 => ?_) (fun h842 => ?_)
  ·
    refine r_lv (lv2 := [(0, .ref b9), (1, .ref (ad 117)), (2, .ref (ad 135)), (3, .ref (ad 145)), (4, .int (nI i9))]) [0, 1, 2, 3, 4] rfl ?_
    exact k9 _ _ hRR (by omega)
  · exact absurd hv9 h842
set_option maxRecDepth 100000 in
set_option maxHeartbeats 4000000 in
theorem LC_nearness {l : Launch} {D : va_G} {cs : Nat → ClassId} {ad : Nat → Nat} {κ : Kx} {u U : Nat} {M : Mm} (C : CX D cs ad cL_law 9 RL 2048 84000 U κ) (hN : CN ad κ) (hfl : l.stackTraces = false) {b9 L i9 : Nat} {xs : Nat → Int32} (hSc : CSX ad b9 L xs κ) (hL : L ≤ 2048) (hj : i9 + 4 ≤ L) {s9 lt len n d : Nat} {ct : Nat → Nat} (hX : RX M s9 lt len ct n d) (hu : u + 1 ≤ U) (hFP : FPH) (k9 : ∀ (u2 : Nat) (M2 : Mm), RR M2 → u2 ≤ u + 1 → VV l D cs ad 9 κ u2 M2 1584 [(0, .ref b9), (1, .ref (ad 117)), (2, .ref (ad 135)), (3, .ref (ad 145)), (4, .int (nI i9))] []) : VV l D cs ad 9 κ u M 1529 [(0, .ref b9), (1, .ref (ad 117)), (2, .ref (ad 135)), (3, .ref (ad 145)), (4, .int (nI i9))] [] := by
  obtain ⟨hz, hg, hpm, hks, hkh, hkt, hms, hml, htx⟩ := (show RX M s9 lt len ct n d from hX)
  obtain ⟨hzn, hzd, ⟨hn1, hn8⟩, ⟨hd1, hd4⟩, ⟨mk, hk⟩, hsy, hw9, hlb, hhb, hlz, hz0⟩ := (show gz (M.1 136) n d from hz)
  obtain ⟨hlt, hlt6, hs, hs6, hhi⟩ := (show KH M (fun j p => M.1 137 (55 * j + p)) s9 lt from hkh)
  obtain ⟨hlen, hl60, hct⟩ := (show KT M ct len from hkt)
  have hm := gk_gm hn8 hk
  obtain ⟨e0, hq0⟩ := gz_gq hz
  refine r_aload_n C dL_law_1529 rfl 1 rfl ?_
  refine r_ncallV_d (nA := 0) C hN (by omega) [] (c_X7_nearness l D cs ad M (M.1 136) n d hg hn8 hm mk (wtz (M.1 136)) hk hw9 hsy hn1 (wtz (M.1 136)) (Uz (M.1 136)) (Sz (M.1 136)) (Hz (M.1 136)) (gz_B hz).1 (gz_B hz).2 (hFP _ _ _ hz).1 (hFP _ _ _ hz).2.1) (tt_V ml_L_180 im_X7_nearness se_X7_nearness in_X7 co_X7_nearness) ⟨rfl, rfl⟩ ⟨rfl, by decide, by decide, by decide⟩ ⟨Nat.le_of_ble_eq_true rfl, Nat.le_of_ble_eq_true rfl⟩ (by decide) rfl rfl rfl rfl rfl (Nat.le_of_ble_eq_true rfl) dL_law_1530 (fun rw1 Mw qw => ?_)
  obtain ⟨hvv, hc⟩ := qw
  have eM : ∀ i, 135 ≤ i → Mw.1 i = M.1 i := eM_lk hc
  have e136 : Mw.1 136 = M.1 136 := eM 136 (by decide)
  refine r_dstore C [(5, .double rw1), (0, .ref b9), (1, .ref (ad 117)), (2, .ref (ad 135)), (3, .ref (ad 145)), (4, .int (nI i9))] dL_law_1533 (by decide) rfl ?_
  refine r_aload_n C dL_law_1535 rfl 3 rfl ?_
  refine r_callV_d (nA := 0) C (by omega) [] (c_X8_nearness l D cs ad Mw n (by rw [e136]; exact hz.1) hn8 (wtz (M.1 136)) (Uz (M.1 136)) (Sz (M.1 136)) (Hz (M.1 136)) (by rw [e136]; exact (gz_B hz).1) (by rw [e136]; exact (hFP _ _ _ hz).1)) (tt_V ml_L_184 im_X8_nearness se_X8_nearness in_X8 co_X8_nearness) ⟨rfl, rfl⟩ ⟨rfl, by decide, by decide, by decide⟩ ⟨Nat.le_of_ble_eq_true rfl, Nat.le_of_ble_eq_true rfl⟩ (by decide) rfl rfl rfl rfl rfl (Nat.le_of_ble_eq_true rfl) dL_law_1536 (fun ru1 Mu1 qu1 => ?_)
  rw [e136] at qu1
  obtain ⟨hr1, hm1⟩ := qu1
  have hRR : RR Mu1 := (S_lk hX hc (Mu := Mw) rfl rfl (SQ.S hm1)).2.2
  have hv9 : Op.cmpValue (FP.dcmp rw1 ru1) .l = 0 := by rw [hvv, hr1]; exact (hFP _ _ _ hz).2.2.1
  refine r_dstore C [(7, .double ru1), (5, .double rw1), (0, .ref b9), (1, .ref (ad 117)), (2, .ref (ad 135)), (3, .ref (ad 145)), (4, .int (nI i9))] dL_law_1539 (by decide) rfl ?_
  refine r_dload C dL_law_1541 1 rfl ?_
  refine r_dload C dL_law_1543 0 rfl ?_
  refine r_dcmp C dL_law_1545 ?_
  refine r_if_eq C 1567 dL_law_1546 (by decide) (fun h1546 => ?_) (fun h1546 => ?_)
  ·
    refine r_goto C 1584 dL_law_1567 (by decide) ?_
    refine r_lv (lv2 := [(0, .ref b9), (1, .ref (ad 117)), (2, .ref (ad 135)), (3, .ref (ad 145)), (4, .int (nI i9))]) [2, 3, 4, 5, 6] rfl ?_
    exact k9 _ _ hRR (by omega)
  · exact absurd hv9 h1546
set_option maxRecDepth 100000 in
set_option maxHeartbeats 4000000 in
theorem LC_digest {l : Launch} {D : va_G} {cs : Nat → ClassId} {ad : Nat → Nat} {κ : Kx} {u U : Nat} {M : Mm} (C : CX D cs ad cL_law 9 RL 2048 84000 U κ) (hN : CN ad κ) (hfl : l.stackTraces = false) {b9 L i9 : Nat} {xs : Nat → Int32} (hSc : CSX ad b9 L xs κ) (hL : L ≤ 2048) (hj : i9 + 4 ≤ L) {s9 lt len n d : Nat} {ct : Nat → Nat} (hX : RX M s9 lt len ct n d) (hu : u + 1 ≤ U) (hFP : FPH) (k9 : ∀ (u2 : Nat) (M2 : Mm), RR M2 → u2 ≤ u + 1 → VV l D cs ad 9 κ u2 M2 1584 [(0, .ref b9), (1, .ref (ad 117)), (2, .ref (ad 135)), (3, .ref (ad 145)), (4, .int (nI i9))] []) : VV l D cs ad 9 κ u M 1570 [(0, .ref b9), (1, .ref (ad 117)), (2, .ref (ad 135)), (3, .ref (ad 145)), (4, .int (nI i9))] [] := by
  obtain ⟨hz, hg, hpm, hks, hkh, hkt, hms, hml, htx⟩ := (show RX M s9 lt len ct n d from hX)
  obtain ⟨hzn, hzd, ⟨hn1, hn8⟩, ⟨hd1, hd4⟩, ⟨mk, hk⟩, hsy, hw9, hlb, hhb, hlz, hz0⟩ := (show gz (M.1 136) n d from hz)
  obtain ⟨hlt, hlt6, hs, hs6, hhi⟩ := (show KH M (fun j p => M.1 137 (55 * j + p)) s9 lt from hkh)
  obtain ⟨hlen, hl60, hct⟩ := (show KT M ct len from hkt)
  have hm := gk_gm hn8 hk
  obtain ⟨e0, hq0⟩ := gz_gq hz
  refine r_aload_n C dL_law_1570 rfl 1 rfl ?_
  refine r_ncallV_l (nA := 0) C hN (by omega) [] (c_X7_digest l D cs ad M (M.1 136) n d hg hn8 hm mk (wtz (M.1 136)) hk hw9 hsy hn1 hpm (fun k hk => by rw [(hks k hk).1]; exact (hks k hk).2.imp (fun w => w) (fun w => w.1)) hd4 hz0 (wtz (M.1 136)) (Uz (M.1 136)) (Sz (M.1 136)) (Hz (M.1 136)) (gz_B hz).1 (gz_B hz).2 (hFP _ _ _ hz).1 (hFP _ _ _ hz).2.1 (Uz (M.1 136)) (fun c => Sz (hnR (M.1 136) d c 3 1 d)) (fun c => Hz (hnR (M.1 136) d c 3 1 d)) (gz_L hz (size := 1) (b := 3) (by decide) (by decide)).1 (gz_L hz (size := 1) (b := 3) (by decide) (by decide)).2 len hlen hl60 (hFP _ _ _ hz).2.2.2) (tt_V ml_L_185 im_X7_digest se_X7_digest in_X7 co_X7_digest) ⟨rfl, rfl⟩ ⟨rfl, by decide, by decide, by decide⟩ ⟨Nat.le_of_ble_eq_true rfl, Nat.le_of_ble_eq_true rfl⟩ (by decide) rfl rfl rfl rfl rfl (Nat.le_of_ble_eq_true rfl) dL_law_1571 (fun rw1 Mw qw => ?_)
  obtain ⟨hvv, hc⟩ := qw
  have eM : ∀ i, 135 ≤ i → Mw.1 i = M.1 i := eM_lk hc
  have e136 : Mw.1 136 = M.1 136 := eM 136 (by decide)
  refine r_aload_n C dL_law_1574 rfl 2 rfl ?_
  refine r_callV_l (nA := 0) C (by omega) [] (c_X8_digest l D cs ad Mw n (by rw [e136]; exact hz.1) hn8 d (by rw [e136]; exact hz.2.1) hd4 len (by rw [eM 135 (by decide)]; exact hml) hl60 hn1 (by rw [e136]; exact co_ex _ hn8 hn1) (wtz (M.1 136)) (Uz (M.1 136)) (Sz (M.1 136)) (Hz (M.1 136)) (by rw [e136]; exact (gz_B hz).1) (Uz (M.1 136)) (fun c => Sz (hnR (M.1 136) d c 3 1 d)) (fun c => Hz (hnR (M.1 136) d c 3 1 d)) (by rw [e136]; exact (gz_L hz (size := 1) (b := 3) (by decide) (by decide)).1) (by rw [e136]; exact (hFP _ _ _ hz).1) (by rw [e136]; exact (hFP _ _ _ hz).2.2.1)) (tt_V ml_L_189 im_X8_digest se_X8_digest in_X8 co_X8_digest) ⟨rfl, rfl⟩ ⟨rfl, by decide, by decide, by decide⟩ ⟨Nat.le_of_ble_eq_true rfl, Nat.le_of_ble_eq_true rfl⟩ (by decide) rfl rfl rfl rfl rfl (Nat.le_of_ble_eq_true rfl) dL_law_1575 (fun ru1 Mu1 qu1 => ?_)
  rw [e136, eM 139 (by decide), eM 140 (by decide), eM 135 (by decide)] at qu1
  obtain ⟨hr1, hm1⟩ := qu1
  have hRR : RR Mu1 := (S_lk hX hc (Mu := Mw) rfl rfl (SQ.D hm1)).2.2
  have hv9 : rw1 = ru1 := by rw [hvv, hr1]; exact dg_cg (hks 0 (by decide)).1 (hks 1 (by decide)).1 (hs.trans hms.symm) (fun k hk => (hct k hk).1.trans (htx k hk).symm)
  refine r_lcmp C dL_law_1578 ?_
  refine r_if_eq C 1584 dL_law_1579 (by decide) (fun h1579 => ?_) (fun h1579 => ?_)
  ·
    rw [lgc_eq] at h1579
    refine r_lv (lv2 := [(0, .ref b9), (1, .ref (ad 117)), (2, .ref (ad 135)), (3, .ref (ad 145)), (4, .int (nI i9))]) [0, 1, 2, 3, 4] rfl ?_
    exact k9 _ _ hRR (by omega)
  · exact absurd (show lg_cmp rw1 ru1 = 0 by rw [lgc_eq]; exact hv9) h1579
