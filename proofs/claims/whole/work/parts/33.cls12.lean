/-! ===== the class: the best handle (written by wip/whole/gen/cls12.py) ===== -/
def oH (M M2 : Mm) : Prop := ∀ i, ¬ (131 ≤ i ∧ i ≤ 134) → M2.1 i = M.1 i ∧ M2.2 i = M.2 i
theorem oH.rf (M : Mm) : oH M M := fun _ _ => ⟨rfl, rfl⟩
theorem oH.tr {M M2 M3 : Mm} (h : oH M M2) (h2 : oH M2 M3) : oH M M3 := fun i hi => ⟨(h2 i hi).1.trans (h i hi).1, (h2 i hi).2.trans (h i hi).2⟩
theorem oB.H {b : Nat} {M M2 : Mm} (h : oB b M M2) (hb : 131 ≤ b ∧ b ≤ 134) : oH M M2 := fun i hi => ⟨h.1 i (fun e => hi (by rw [e]; exact hb)), h.2 i (fun e => hi (by rw [e]; exact hb))⟩
theorem o1.H {b : Nat} {M M2 : Mm} (h : o1 b M M2) (hb : 131 ≤ b ∧ b ≤ 134) : oH M M2 := fun i hi => ⟨h.1 i (fun e => hi (by rw [e]; exact hb)), by rw [h.2]⟩
section HS
variable (z : Nat → Int32) (n d b size : Nat) (wt U : Nat → Nat) (S : Nat → Nat → Nat) (H : Nat → Nat)
/-- the least bound among the first codes as the class finds it, and its code and 1 -/
def hsS : Nat → (Nat × Nat × Nat) × Nat
  | 0 => ((0, 0, 0), 0)
  | c + 1 => if upR (hnR z d c b size d) n = -1 ∧ ((hsS c).2 = 0 ∨ (bcS wt U (S c) (H c) n).1 * (hsS c).1.2.1 < (hsS c).1.1 * (bcS wt U (S c) (H c) n).2.1) then (bcS wt U (S c) (H c) n, c + 1) else hsS c
def bsE (t p : Nat) : Int32 := if t = 0 then nI 0 else trI d (t - 1) b size p
end HS
def lsV (M : Mm) (s : (Nat × Nat × Nat) × Nat) : Prop := (s.2 = 0 → bdN M 132) ∧ (0 < s.2 → bdV M 132 s.1)
theorem bd_k {M M2 : Mm} {b : Nat} {q : Nat × Nat × Nat} (h : bdV M b q) (h1 : M2.1 b = M.1 b) (h2 : M2.2 b = M.2 b) : bdV M2 b q := by
  unfold bdV; rw [h1, h2]; exact h
theorem bd_kN {M M2 : Mm} {b : Nat} (h : bdN M b) (h1 : M2.1 b = M.1 b) (h2 : M2.2 b = M.2 b) : bdN M2 b := by
  unfold bdN; rw [h1, h2]; exact h
theorem ls_k {M M2 : Mm} {s : (Nat × Nat × Nat) × Nat} (h : lsV M s) (h1 : M2.1 132 = M.1 132) (h2 : M2.2 132 = M.2 132) : lsV M2 s := ⟨fun q => bd_kN (h.1 q) h1 h2, fun q => bd_k (h.2 q) h1 h2⟩
section RN
variable {z : Nat → Int32} {n d b size : Nat} {wt U : Nat → Nat} {S : Nat → Nat → Nat} {H : Nat → Nat} {M M3 M4 M5 : Mm} {c : Nat}
def rnS (z : Nat → Int32) (n d b size : Nat) (wt U : Nat → Nat) (S : Nat → Nat → Nat) (H : Nat → Nat) (M M3 : Mm) (c t : Nat) : Prop := oH M M3 ∧ (∀ p, p < 4 → M3.1 133 p = trI d c b size p) ∧ lsV M3 (hsS z n d b size wt U S H t) ∧ ∀ p, p < 4 → M3.1 131 p = bsE d b size (hsS z n d b size wt U S H t).2 p
theorem rn_go (h : rnS z n d b size wt U S H M M4 c (c + 1)) (hg : goP d c b size M4 M5) : rnS z n d b size wt U S H M M5 (c + 1) (c + 1) := ⟨h.1.tr (hg.1.H (by decide)), hg.2, ls_k h.2.2.1 (hg.1.1 132 (by decide)) (by rw [hg.1.2]), fun p hp => by rw [hg.1.1 131 (by decide)]; exact h.2.2.2 p hp⟩
theorem rn_keep (h : rnS z n d b size wt U S H M M3 c c) (ho : oB 134 M3 M4) (he : hsS z n d b size wt U S H (c + 1) = hsS z n d b size wt U S H c) : rnS z n d b size wt U S H M M4 c (c + 1) := by
  unfold rnS; rw [he]
  exact ⟨h.1.tr (ho.H (by decide)), fun p hp => by rw [ho.1 133 (by decide)]; exact h.2.1 p hp, ls_k h.2.2.1 (ho.1 132 (by decide)) (ho.2 132 (by decide)), fun p hp => by rw [ho.1 131 (by decide)]; exact h.2.2.2 p hp⟩
theorem rn_take {M6 : Mm} {q : Nat × Nat × Nat} (h : rnS z n d b size wt U S H M M3 c c) (ho : oB 134 M3 M4) (h5 : oB 132 M4 M5 ∧ bdV M5 132 q) (e : M6 = mA M5 131 (va_cpy (M5.1 133) (M5.1 131) 0 0 4)) (he : hsS z n d b size wt U S H (c + 1) = (q, c + 1)) : rnS z n d b size wt U S H M M6 c (c + 1) := by
  subst e
  unfold rnS; rw [he]
  refine ⟨(h.1.tr (ho.H (by decide))).tr ((h5.1.H (by decide)).tr (fun i hi => ⟨mA_ne _ (fun e => hi (by rw [e]; decide)), rfl⟩)), fun p hp => ?_, ⟨fun q => absurd q (Nat.succ_ne_zero c), fun _ => bd_k h5.2 (mA_ne _ (by decide)) rfl⟩, fun p hp => ?_⟩
  · rw [mA_ne _ (by decide), h5.1.1 133 (by decide), ho.1 133 (by decide)]; exact h.2.1 p hp
  · rw [mA_eq, cy_at hp, h5.1.1 133 (by decide), ho.1 133 (by decide), h.2.1 p hp]; exact (if_neg (Nat.succ_ne_zero c)).symm
theorem hs_le (hB : lbHyp z n d b size wt U S H) : ∀ {c : Nat}, c ≤ b ^ d → 0 < (hsS z n d b size wt U S H c).2 → (hsS z n d b size wt U S H c).1.1 ≤ 1440000 ∧ 0 < (hsS z n d b size wt U S H c).1.2.1 ∧ (hsS z n d b size wt U S H c).1.2.1 ≤ 200000
  | 0, _, h => absurd h (Nat.lt_irrefl 0)
  | c + 1, hc, h => by
    unfold hsS at h ⊢
    split at h
    · rename_i q
      rw [if_pos q]
      have h9 := bcS_le (hB c (by omega) q.1) n (Nat.le_refl n)
      exact ⟨h9.1, h9.2.1, h9.2.2.1⟩
    · rename_i q
      rw [if_neg q]; exact hs_le hB (by omega) h
/-- the row with the trial's handle -/
theorem tr_gv (hg : gv M 0 (gH 0) z n d) (hn : n ≤ 8) (hd : d ≤ 4) (hz : ∀ p, d ≤ p → p < 4 → z (50 + p) = nI 0) (h : rnS z n d b size wt U S H M M3 c c) : gv M3 0 133 (hnR z d c b size d) n d := by
  obtain ⟨g1, g2, g3, g4, g5, g6⟩ := hg
  refine ⟨by rw [(h.1 _ (by simp only [gO]; omega)).1]; exact g1, by rw [(h.1 _ (by simp only [gO]; omega)).1]; exact g2, fun v hv => ?_, fun v hv => ?_, fun v p hv hp => ?_, fun p hp => ?_⟩
  · rw [(h.1 _ (by simp only [gN]; omega)).1, g3 v hv]; unfold hnR; rw [if_neg (by omega)]
  · rw [(h.1 _ (by simp only [gW]; omega)).1, g4 v hv]; unfold hnR; rw [if_neg (by omega)]
  · rw [(h.1 _ (by simp only [gR]; omega)).1, g5 v p hv hp]; unfold hnR; rw [if_neg (by omega)]
  · rw [h.2.1 p hp, tr_hn hz hp]
def hsR (s : (Nat × Nat × Nat) × Nat) : (Nat × Nat × Nat) × Nat := (rdQ s.1, s.2)
/-- what run leaves -/
def rnP (d b size : Nat) (s : (Nat × Nat × Nat) × Nat) (M M2 : Mm) : Prop := oH M M2 ∧ lsV M2 (hsR s) ∧ ∀ p, p < 4 → M2.1 131 p = bsE d b size s.2 p
theorem rn_e0 (h : rnS z n d b size wt U S H M M3 c c) (ht : (hsS z n d b size wt U S H c).2 = 0) (e : M4 = M3) : rnP d b size (hsS z n d b size wt U S H c) M M4 := by
  subst e
  exact ⟨h.1, ⟨fun _ => h.2.2.1.1 ht, fun q => absurd (show 0 < (hsS z n d b size wt U S H c).2 from q) (by omega)⟩, h.2.2.2⟩
theorem rn_e1 (h : rnS z n d b size wt U S H M M3 c c) (ht : 0 < (hsS z n d b size wt U S H c).2) (e : oB 132 M3 M4 ∧ bdV M4 132 (rdQ (hsS z n d b size wt U S H c).1)) : rnP d b size (hsS z n d b size wt U S H c) M M4 :=
  ⟨h.1.tr (e.1.H (by decide)), ⟨fun q => absurd (show (hsS z n d b size wt U S H c).2 = 0 from q) (by omega), fun _ => e.2⟩, fun p hp => by rw [e.1.1 131 (by decide)]; exact h.2.2.2 p hp⟩
end RN
set_option maxRecDepth 100000 in
set_option maxHeartbeats 4000000 in
theorem c_X5_runN (l : Launch) (D : va_G) (cs : Nat → ClassId) (ad : Nat → Nat) (M : Mm) (z : Nat → Int32) (n d : Nat) (hg : gv M 0 (gH 0) z n d) (hn8 : n ≤ 8) (hm : gm z n) (hd4 : d ≤ 4) (size bb : Nat) (hbb : 2 * size + 1 = bb) (hs1 : 1 ≤ size) (hs2 : size ≤ 2) (hfu : ¬ fuz z n = -1) : ∀ sz : Nat, Met l yX5_run (.code yX5_run cX5_run 5 none :: TT) { frames := 4, cells := 0, slots := 0, locals := 88 } (va_Pc [.ref (ad 130), .ref (ad (gO 0)), .int (nI size)] (fun U9 => U9.heap.size = sz ∧ wB D cs ad (fA ad sz) M U9 ∧ xX (fA ad sz) U9 U9.heap)) (va_Qv (fun M2 => rnP d bb size ((0, 0, 0), 0) M M2) (wB D cs ad (fA ad sz)) (fA ad sz)) 0 0 (fA ad sz) := by
  refine sn_V (by decide) (Nat.le_of_ble_eq_true rfl) (fun κ C hN E => ?_)
  refine r_lv (lv2 := [(0, .ref (ad 130)), (1, .ref (ad (gO 0))), (2, .int (nI size))]) [0, 1, 2] rfl ?_
  refine r_aload_n C dX5_run_0 rfl 0 rfl ?_
  refine r_get C (Cn := RX5) (T := TX5) (N := 4) (id := 130) (by decide) inw_X5 rfl rfl 0 (by decide) rfl fl_X5_9 rfl dX5_run_1 ?_
  refine r_iconst C (nI 0) dX5_run_4 (by decide) ?_
  refine r_callS2_v (nA := 2) C (Nat.le_of_ble_eq_true rfl) [.ref (ad 131), .int (nI 0)] (c_fill l D cs ad M  131 4 (by decide) (fun _ _ => rfl) (by decide) (nI 0)) (tt_S2 ml_X5_28 st_J7_fill_53178 in_J7 co_J7_fill_53178) ⟨rfl, rfl⟩ ⟨by decide, by decide, by decide⟩ ⟨Nat.le_of_ble_eq_true rfl, Nat.le_of_ble_eq_true rfl⟩ rfl rfl (Nat.le_of_ble_eq_true rfl) dX5_run_5 (fun Mu1 qu1 => ?_)
  refine r_aload_n C dX5_run_8 rfl 0 rfl ?_
  refine r_get C (Cn := RX5) (T := TX5) (N := 4) (id := 130) (by decide) inw_X5 rfl rfl 1 (by decide) rfl fl_X5_18 rfl dX5_run_9 ?_
  refine r_callV_v (nA := 0) C (Nat.le_of_ble_eq_true rfl) [] (c_X0_tellNone l D cs ad Mu1  132 (by decide) (fun _ _ => rfl)) (tt_V ml_X5_34 im_X0_tellNone se_X0_tellNone in_X0 co_X0_tellNone) ⟨rfl, rfl⟩ ⟨rfl, by decide, by decide, by decide⟩ ⟨Nat.le_of_ble_eq_true rfl, Nat.le_of_ble_eq_true rfl⟩ (by decide) rfl rfl rfl rfl rfl (Nat.le_of_ble_eq_true rfl) dX5_run_12 (fun Mu2 qu2 => ?_)
  refine r_aload_n C dX5_run_15 rfl 1 rfl ?_
  refine r_npcallV_i (nA := 0) C hN (Nat.le_of_ble_eq_true rfl) [] (c_X4_firstUnfit l D cs ad Mu2 0  (by decide) (gH 0) z n d (gv_k hg hn8 (fun i hi => by rw [qu2.1.1 i (by simp only [gH] at hi; omega), qu1.1.1 i (by simp only [gH] at hi; omega)])) hn8 hm) (tt_V ml_X5_37 im_X4_firstUnfit se_X4_firstUnfit in_X4 co_X4_firstUnfit) ⟨rfl, rfl⟩ ⟨rfl, by decide, by decide, by decide⟩ ⟨Nat.le_of_ble_eq_true rfl, Nat.le_of_ble_eq_true rfl⟩ (by simp only [gO, gN, gW, gL, gR, gH] <;> omega) (wF_O cs ad (by decide) _ _) rfl rfl rfl rfl (Nat.le_of_ble_eq_true rfl) dX5_run_16 ?_
  refine r_iconst C ((-1)) dX5_run_19 (by decide) ?_
  refine r_icmp_eq C 24 dX5_run_20 (by decide) (fun h20 => ?_) (fun h20 => ?_)
  · exact absurd h20 hfu
  ·
    exact E 0 _ _ _ (Nat.le_of_ble_eq_true rfl) dX5_run_23 (⟨(qu1.1.H (by decide)).tr (qu2.1.H (by decide)), ⟨fun _ => qu2.2, fun q => absurd q (Nat.lt_irrefl 0)⟩, fun p hp => by rw [qu2.1.1 131 (by decide)]; exact qu1.2 p hp⟩)
set_option maxRecDepth 100000 in
set_option maxHeartbeats 4000000 in
theorem c_X5_run (l : Launch) (D : va_G) (cs : Nat → ClassId) (ad : Nat → Nat) (M : Mm) (z : Nat → Int32) (n d : Nat) (hg : gv M 0 (gH 0) z n d) (hn8 : n ≤ 8) (hm : gm z n) (hd4 : d ≤ 4) (size bb : Nat) (hbb : 2 * size + 1 = bb) (hs1 : 1 ≤ size) (hs2 : size ≤ 2) (hfu : fuz z n = -1) (hz0 : ∀ p, d ≤ p → p < 4 → z (50 + p) = nI 0) (wt U : Nat → Nat) (S : Nat → Nat → Nat) (H : Nat → Nat) (hBB : lbHyp z n d bb size wt U S H) : ∀ sz : Nat, Met l yX5_run (.code yX5_run cX5_run 5 none :: TT) { frames := 4, cells := 0, slots := 0, locals := 88 } (va_Pc [.ref (ad 130), .ref (ad (gO 0)), .int (nI size)] (fun U9 => U9.heap.size = sz ∧ wB D cs ad (fA ad sz) M U9 ∧ xX (fA ad sz) U9 U9.heap)) (va_Qv (fun M2 => rnP d bb size (hsS z n d bb size wt U S H (bb ^ d)) M M2) (wB D cs ad (fA ad sz)) (fA ad sz)) 0 0 (fA ad sz) := by
  have hcd := pb_le (b := bb) (d := d) (by omega) hd4
  rw [← cdN_4 hd4] at hcd
  refine sn_V (by decide) (Nat.le_of_ble_eq_true rfl) (fun κ C hN E => ?_)
  refine r_lv (lv2 := [(0, .ref (ad 130)), (1, .ref (ad (gO 0))), (2, .int (nI size))]) [0, 1, 2] rfl ?_
  refine r_aload_n C dX5_run_0 rfl 0 rfl ?_
  refine r_get C (Cn := RX5) (T := TX5) (N := 4) (id := 130) (by decide) inw_X5 rfl rfl 0 (by decide) rfl fl_X5_9 rfl dX5_run_1 ?_
  refine r_iconst C (nI 0) dX5_run_4 (by decide) ?_
  refine r_callS2_v (nA := 2) C (Nat.le_of_ble_eq_true rfl) [.ref (ad 131), .int (nI 0)] (c_fill l D cs ad M  131 4 (by decide) (fun _ _ => rfl) (by decide) (nI 0)) (tt_S2 ml_X5_28 st_J7_fill_53178 in_J7 co_J7_fill_53178) ⟨rfl, rfl⟩ ⟨by decide, by decide, by decide⟩ ⟨Nat.le_of_ble_eq_true rfl, Nat.le_of_ble_eq_true rfl⟩ rfl rfl (Nat.le_of_ble_eq_true rfl) dX5_run_5 (fun Mu1 qu1 => ?_)
  refine r_aload_n C dX5_run_8 rfl 0 rfl ?_
  refine r_get C (Cn := RX5) (T := TX5) (N := 4) (id := 130) (by decide) inw_X5 rfl rfl 1 (by decide) rfl fl_X5_18 rfl dX5_run_9 ?_
  refine r_callV_v (nA := 0) C (Nat.le_of_ble_eq_true rfl) [] (c_X0_tellNone l D cs ad Mu1  132 (by decide) (fun _ _ => rfl)) (tt_V ml_X5_34 im_X0_tellNone se_X0_tellNone in_X0 co_X0_tellNone) ⟨rfl, rfl⟩ ⟨rfl, by decide, by decide, by decide⟩ ⟨Nat.le_of_ble_eq_true rfl, Nat.le_of_ble_eq_true rfl⟩ (by decide) rfl rfl rfl rfl rfl (Nat.le_of_ble_eq_true rfl) dX5_run_12 (fun Mu2 qu2 => ?_)
  refine r_aload_n C dX5_run_15 rfl 1 rfl ?_
  refine r_npcallV_i (nA := 0) C hN (Nat.le_of_ble_eq_true rfl) [] (c_X4_firstUnfit l D cs ad Mu2 0  (by decide) (gH 0) z n d (gv_k hg hn8 (fun i hi => by rw [qu2.1.1 i (by simp only [gH] at hi; omega), qu1.1.1 i (by simp only [gH] at hi; omega)])) hn8 hm) (tt_V ml_X5_37 im_X4_firstUnfit se_X4_firstUnfit in_X4 co_X4_firstUnfit) ⟨rfl, rfl⟩ ⟨rfl, by decide, by decide, by decide⟩ ⟨Nat.le_of_ble_eq_true rfl, Nat.le_of_ble_eq_true rfl⟩ (by simp only [gO, gN, gW, gL, gR, gH] <;> omega) (wF_O cs ad (by decide) _ _) rfl rfl rfl rfl (Nat.le_of_ble_eq_true rfl) dX5_run_16 ?_
  refine r_iconst C ((-1)) dX5_run_19 (by decide) ?_
  refine r_icmp_eq C 24 dX5_run_20 (by decide) (fun h20 => ?_) (fun h20 => ?_)
  ·
    refine r_aload_n C dX5_run_24 rfl 0 rfl ?_
    refine r_aload_n C dX5_run_25 rfl 1 rfl ?_
    refine r_get C (Cn := RX4) (T := TX4) (N := 6) (id := (gO 0)) (by simp only [gO, gN, gW, gL, gR, gH] <;> omega) inw_X4 (wF_O cs ad (by decide) _ _) rfl 1 (by decide) rfl fl_X5_43 rfl dX5_run_26 ?_
    refine r_topi (w := nI d) (by rw [qu2.1.1 _ (by decide), qu1.1.1 _ (by decide)]; exact hg.2.1) ?_
    refine r_iload_n C dX5_run_29 rfl 2 rfl ?_
    refine r_callV_i (nA := 2) C (Nat.le_of_ble_eq_true rfl) [.int (nI d), .int (nI size)] (c_X5_begins l D cs ad Mu2  d hd4 size bb hbb hs1 hs2) (tt_V ml_X5_47 im_X5_begins se_X5_begins in_X5 co_X5_begins) ⟨rfl, rfl⟩ ⟨rfl, by decide, by decide, by decide⟩ ⟨Nat.le_of_ble_eq_true rfl, Nat.le_of_ble_eq_true rfl⟩ (by decide) rfl rfl rfl rfl rfl (Nat.le_of_ble_eq_true rfl) dX5_run_30 (fun ru3 Mu3 qu3 => ?_)
    obtain ⟨e9, hbe9⟩ := qu3
    subst e9
    refine r_istore_n C [(3, .int (nI (cdN d bb 4))), (0, .ref (ad 130)), (1, .ref (ad (gO 0))), (2, .int (nI size))] dX5_run_33 rfl (by decide) rfl ?_
    refine r_iconst C (nI 0) dX5_run_34 (by decide) ?_
    refine r_istore C [(4, .int (nI 0)), (3, .int (nI (cdN d bb 4))), (0, .ref (ad 130)), (1, .ref (ad (gO 0))), (2, .int (nI size))] dX5_run_35 (by decide) rfl ?_
    have Lp : ∀ (f_c c : Nat) (M3 : Mm), (cdN d bb 4) + 1 ≤ c + f_c → c ≤ (cdN d bb 4) → rnS z n d bb size wt U S H M M3 c c → VV l D cs ad 5 κ 0 M3 37 [(4, .int (nI c)), (3, .int (nI (cdN d bb 4))), (0, .ref (ad 130)), (1, .ref (ad (gO 0))), (2, .int (nI size))] [] := by
      intro f_c
      induction f_c with
      | zero => intro c M3 hk1_c hk2_c hI_c; exact absurd hk1_c (by omega)
      | succ f_c ih_c =>
        intro c M3 hk1_c hk2_c hI_c
        refine r_iload C dX5_run_37 0 rfl ?_
        refine r_iload_n C dX5_run_39 rfl 1 rfl ?_
        refine r_icmpN_ge C 129 dX5_run_40 (by decide) (by omega) (by omega) (fun h40 => ?_) (fun h40 => ?_)
        ·
          have hk9 : c = cdN d bb 4 := by omega
          rw [hk9] at hI_c
          refine r_aload_n C dX5_run_129 rfl 2 rfl ?_
          refine r_get C (Cn := RX5) (T := TX5) (N := 4) (id := 130) (by decide) inw_X5 rfl rfl 1 (by decide) rfl fl_X5_18 rfl dX5_run_130 ?_
          rcases Nat.eq_zero_or_pos (hsS z n d bb size wt U S H (cdN d bb 4)).2 with ht | ht
          ·
            refine r_callV_v (nA := 0) C (Nat.le_of_ble_eq_true rfl) [] (c_X0_reduceN l D cs ad M3  132 (by decide) (fun _ _ => rfl) (hI_c.2.2.1.1 ht).1) (tt_V ml_X5_77 im_X0_reduce se_X0_reduce in_X0 co_X0_reduce) ⟨rfl, rfl⟩ ⟨rfl, by decide, by decide, by decide⟩ ⟨Nat.le_of_ble_eq_true rfl, Nat.le_of_ble_eq_true rfl⟩ (by decide) rfl rfl rfl rfl rfl (Nat.le_of_ble_eq_true rfl) dX5_run_133 (fun Mu4 qu4 => ?_)
            exact E 0 _ _ _ (Nat.le_of_ble_eq_true rfl) dX5_run_136 (by rw [← cdN_4 hd4]; exact rn_e0 hI_c ht qu4)
          ·
            have hb2 := hs_le hBB (Nat.le_of_eq (cdN_4 hd4)) ht
            refine r_callV_v (nA := 0) C (Nat.le_of_ble_eq_true rfl) [] (c_X0_reduce l D cs ad M3  132 (by decide) (fun _ _ => rfl) _ (hI_c.2.2.1.2 ht) (by omega) hb2.2.1 (by omega)) (tt_V ml_X5_77 im_X0_reduce se_X0_reduce in_X0 co_X0_reduce) ⟨rfl, rfl⟩ ⟨rfl, by decide, by decide, by decide⟩ ⟨Nat.le_of_ble_eq_true rfl, Nat.le_of_ble_eq_true rfl⟩ (by decide) rfl rfl rfl rfl rfl (Nat.le_of_ble_eq_true rfl) dX5_run_133 (fun Mu5 qu5 => ?_)
            exact E 0 _ _ _ (Nat.le_of_ble_eq_true rfl) dX5_run_136 (by rw [← cdN_4 hd4]; exact rn_e1 hI_c ht qu5)
        ·
          refine r_aload_n C dX5_run_43 rfl 2 rfl ?_
          have hcb : c < bb ^ d := by rw [← cdN_4 hd4]; omega
          by_cases hup : upR (hnR z d c bb size d) n = -1
          ·
            refine r_get C (Cn := RX5) (T := TX5) (N := 4) (id := 130) (by decide) inw_X5 rfl rfl 3 (by decide) rfl fl_X5_25 rfl dX5_run_44 ?_
            refine r_aload_n C dX5_run_47 rfl 3 rfl ?_
            refine r_aload_n C dX5_run_48 rfl 2 rfl ?_
            refine r_get C (Cn := RX5) (T := TX5) (N := 4) (id := 130) (by decide) inw_X5 rfl rfl 2 (by decide) rfl fl_X5_22 rfl dX5_run_49 ?_
            refine r_ncallV_v (nA := 2) C hN (Nat.le_of_ble_eq_true rfl) [.ref (ad (gO 0)), .ref (ad 133)] (c_X0_measure l D cs ad M3  134 (by decide) (by decide) (fun _ _ => rfl) 133 (by decide) (by decide) (fun _ _ => rfl) (hnR z d c bb size d) n d (tr_gv hg hn8 hd4 hz0 hI_c) hn8 hup wt U (S c) (H c) (hBB c hcb hup)) (tt_V ml_X5_51 im_X0_measure se_X0_measure in_X0 co_X0_measure) ⟨rfl, rfl⟩ ⟨rfl, by decide, by decide, by decide⟩ ⟨Nat.le_of_ble_eq_true rfl, Nat.le_of_ble_eq_true rfl⟩ (by decide) rfl rfl rfl rfl rfl (Nat.le_of_ble_eq_true rfl) dX5_run_52 (fun Mu6 qu6 => ?_)
            refine r_aload_n C dX5_run_55 rfl 2 rfl ?_
            refine r_get C (Cn := RX5) (T := TX5) (N := 4) (id := 130) (by decide) inw_X5 rfl rfl 3 (by decide) rfl fl_X5_25 rfl dX5_run_56 ?_
            refine r_get C (Cn := RX0) (T := TX0) (N := 4) (id := 134) (by decide) inw_X0 rfl rfl 0 (by decide) rfl fl_X5_55 rfl dX5_run_59 ?_
            refine r_topi (w := bI true) qu6.2.1 ?_
            refine r_ifB_eq C 114 dX5_run_62 (by decide) (fun h62 => ?_) (fun h62 => ?_)
            · exact absurd (h62.symm.trans (rfl : true = true)) (by decide)
            ·
              rcases Nat.eq_zero_or_pos (hsS z n d bb size wt U S H c).2 with ht | ht
              ·
                refine r_aload_n C dX5_run_65 rfl 2 rfl ?_
                refine r_get C (Cn := RX5) (T := TX5) (N := 4) (id := 130) (by decide) inw_X5 rfl rfl 1 (by decide) rfl fl_X5_18 rfl dX5_run_66 ?_
                refine r_get C (Cn := RX0) (T := TX0) (N := 4) (id := 132) (by decide) inw_X0 rfl rfl 0 (by decide) rfl fl_X5_55 rfl dX5_run_69 ?_
                refine r_topi (w := bI false) ((congrFun (qu6.1.1 132 (by decide)) 0).trans (hI_c.2.2.1.1 ht).1) ?_
                refine r_ifB_eq C 89 dX5_run_72 (by decide) (fun h72 => ?_) (fun h72 => ?_)
                ·
                  refine r_aload_n C dX5_run_89 rfl 2 rfl ?_
                  refine r_get C (Cn := RX5) (T := TX5) (N := 4) (id := 130) (by decide) inw_X5 rfl rfl 1 (by decide) rfl fl_X5_18 rfl dX5_run_90 ?_
                  refine r_aload_n C dX5_run_93 rfl 2 rfl ?_
                  refine r_get C (Cn := RX5) (T := TX5) (N := 4) (id := 130) (by decide) inw_X5 rfl rfl 3 (by decide) rfl fl_X5_25 rfl dX5_run_94 ?_
                  refine r_callV_v (nA := 1) C (Nat.le_of_ble_eq_true rfl) [.ref (ad 134)] (c_X0_copyFrom l D cs ad Mu6  132 (by decide) (fun _ _ => rfl) 134 (by decide) (fun _ _ => rfl) (by decide) (bcS wt U (S c) (H c) n) qu6.2) (tt_V ml_X5_63 im_X0_copyFrom se_X0_copyFrom in_X0 co_X0_copyFrom) ⟨rfl, rfl⟩ ⟨rfl, by decide, by decide, by decide⟩ ⟨Nat.le_of_ble_eq_true rfl, Nat.le_of_ble_eq_true rfl⟩ (by decide) rfl rfl rfl rfl rfl (Nat.le_of_ble_eq_true rfl) dX5_run_97 (fun Mu7 qu7 => ?_)
                  refine r_aload_n C dX5_run_100 rfl 2 rfl ?_
                  refine r_get C (Cn := RX5) (T := TX5) (N := 4) (id := 130) (by decide) inw_X5 rfl rfl 2 (by decide) rfl fl_X5_22 rfl dX5_run_101 ?_
                  refine r_iconst C (nI 0) dX5_run_104 (by decide) ?_
                  refine r_aload_n C dX5_run_105 rfl 2 rfl ?_
                  refine r_get C (Cn := RX5) (T := TX5) (N := 4) (id := 130) (by decide) inw_X5 rfl rfl 0 (by decide) rfl fl_X5_9 rfl dX5_run_106 ?_
                  refine r_iconst C (nI 0) dX5_run_109 (by decide) ?_
                  refine r_iconst C (nI 4) dX5_run_110 (by decide) ?_
                  refine r_copyi C (id0 := 133) (id1 := 131) (n0 := 4) (n1 := 4) (a := 0) (b := 0) (n := 4) (by decide) (by decide) rfl (fun _ => rfl) (by decide) (by decide) (by decide) (by decide) ml_X5_67 na_acopy st_acopy in_J10 (Nat.le_of_ble_eq_true rfl) (Nat.le_of_ble_eq_true rfl) dX5_run_111 ?_
                  have hmid := rn_take hI_c qu6.1 qu7 rfl (if_pos ⟨hup, Or.inl ht⟩)
                  refine r_aload_n C dX5_run_114 rfl 2 rfl ?_
                  refine r_aload_n C dX5_run_115 rfl 3 rfl ?_
                  refine r_get C (Cn := RX4) (T := TX4) (N := 6) (id := (gO 0)) (by simp only [gO, gN, gW, gL, gR, gH] <;> omega) inw_X4 (wF_O cs ad (by decide) _ _) rfl 1 (by decide) rfl fl_X5_43 rfl dX5_run_116 ?_
                  refine r_topi (w := (Mu7.1 (gO 0) 1)) (by rw [mA_ne _ (show gO 0 ≠ 131 from (by simp only [gO, gN, gW, gL, gR, gH] <;> omega))]) ?_
                  refine r_topi (w := nI d) ((congrFun (hmid.1 _ (by decide)).1 1).trans hg.2.1) ?_
                  refine r_iload_n C dX5_run_119 rfl 4 rfl ?_
                  refine r_callV_v (nA := 2) C (Nat.le_of_ble_eq_true rfl) [.int (nI d), .int (nI size)] (c_X5_goOn l D cs ad (mA Mu7 131 (va_cpy (Mu7.1 133) (Mu7.1 131) 0 0 4))  d hd4 size bb hbb hs1 hs2 c (Nat.lt_of_lt_of_le hcb (pb_le (by omega) hd4)) hmid.2.1) (tt_V ml_X5_73 im_X5_goOn se_X5_goOn in_X5 co_X5_goOn) ⟨rfl, rfl⟩ ⟨rfl, by decide, by decide, by decide⟩ ⟨Nat.le_of_ble_eq_true rfl, Nat.le_of_ble_eq_true rfl⟩ (by decide) rfl rfl rfl rfl rfl (Nat.le_of_ble_eq_true rfl) dX5_run_120 (fun Mu8 qu8 => ?_)
                  refine r_iinc C (nI (c + 1)) [(4, .int (nI (c + 1))), (3, .int (nI (cdN d bb 4))), (0, .ref (ad 130)), (1, .ref (ad (gO 0))), (2, .int (nI size))] dX5_run_123 (j := 0) rfl (inc_n c 1) (by decide) rfl ?_
                  refine r_goto C 37 dX5_run_126 (by decide) ?_
                  refine r_lv (lv2 := [(4, .int (nI (c + 1))), (3, .int (nI (cdN d bb 4))), (0, .ref (ad 130)), (1, .ref (ad (gO 0))), (2, .int (nI size))]) [0, 1, 2, 3, 4] rfl ?_
                  exact ih_c (c + 1) _ (by omega) (by omega) (rn_go hmid qu8)
                · exact absurd (h72.symm.trans (rfl : false = false)) (by decide)
              ·
                refine r_aload_n C dX5_run_65 rfl 2 rfl ?_
                refine r_get C (Cn := RX5) (T := TX5) (N := 4) (id := 130) (by decide) inw_X5 rfl rfl 1 (by decide) rfl fl_X5_18 rfl dX5_run_66 ?_
                refine r_get C (Cn := RX0) (T := TX0) (N := 4) (id := 132) (by decide) inw_X0 rfl rfl 0 (by decide) rfl fl_X5_55 rfl dX5_run_69 ?_
                refine r_topi (w := bI true) ((congrFun (qu6.1.1 132 (by decide)) 0).trans (hI_c.2.2.1.2 ht).1) ?_
                refine r_ifB_eq C 89 dX5_run_72 (by decide) (fun h72 => ?_) (fun h72 => ?_)
                · exact absurd (h72.symm.trans h62) (by decide)
                ·
                  refine r_aload_n C dX5_run_75 rfl 2 rfl ?_
                  refine r_get C (Cn := RX5) (T := TX5) (N := 4) (id := 130) (by decide) inw_X5 rfl rfl 3 (by decide) rfl fl_X5_25 rfl dX5_run_76 ?_
                  refine r_aload_n C dX5_run_79 rfl 2 rfl ?_
                  refine r_get C (Cn := RX5) (T := TX5) (N := 4) (id := 130) (by decide) inw_X5 rfl rfl 1 (by decide) rfl fl_X5_18 rfl dX5_run_80 ?_
                  have hb1 := bcS_le (hBB c hcb hup) n (Nat.le_refl n)
                  have hb2 := hs_le hBB (Nat.le_of_lt hcb) ht
                  refine r_pcallV_i (nA := 1) C (Nat.le_of_ble_eq_true rfl) [.ref (ad 132)] (c_X0_isLessThan l D cs ad Mu6  134 (by decide) (fun _ _ => rfl) 132 (by decide) (fun _ _ => rfl) (by decide) (bcS wt U (S c) (H c) n) (hsS z n d bb size wt U S H c).1 qu6.2 (bd_k (hI_c.2.2.1.2 ht) (qu6.1.1 132 (by decide)) (qu6.1.2 132 (by decide))) (mul_b hb1.1 hb2.2.2 (by decide)) (mul_b hb2.1 hb1.2.2.1 (by decide))) (tt_V ml_X5_59 im_X0_isLessThan se_X0_isLessThan in_X0 co_X0_isLessThan) ⟨rfl, rfl⟩ ⟨rfl, by decide, by decide, by decide⟩ ⟨Nat.le_of_ble_eq_true rfl, Nat.le_of_ble_eq_true rfl⟩ (by decide) rfl rfl rfl rfl rfl (Nat.le_of_ble_eq_true rfl) dX5_run_83 ?_
                  refine r_ifB_eq C 114 dX5_run_86 (by decide) (fun h86 => ?_) (fun h86 => ?_)
                  ·
                    have hmid := rn_keep hI_c qu6.1 (if_neg (fun w => w.2.elim (fun q => absurd q (by omega)) (fun q => absurd q (of_decide_eq_false h86))))
                    refine r_aload_n C dX5_run_114 rfl 2 rfl ?_
                    refine r_aload_n C dX5_run_115 rfl 3 rfl ?_
                    refine r_get C (Cn := RX4) (T := TX4) (N := 6) (id := (gO 0)) (by simp only [gO, gN, gW, gL, gR, gH] <;> omega) inw_X4 (wF_O cs ad (by decide) _ _) rfl 1 (by decide) rfl fl_X5_43 rfl dX5_run_116 ?_
                    refine r_topi (w := nI d) ((congrFun (hmid.1 _ (by decide)).1 1).trans hg.2.1) ?_
                    refine r_iload_n C dX5_run_119 rfl 4 rfl ?_
                    refine r_callV_v (nA := 2) C (Nat.le_of_ble_eq_true rfl) [.int (nI d), .int (nI size)] (c_X5_goOn l D cs ad Mu6  d hd4 size bb hbb hs1 hs2 c (Nat.lt_of_lt_of_le hcb (pb_le (by omega) hd4)) hmid.2.1) (tt_V ml_X5_73 im_X5_goOn se_X5_goOn in_X5 co_X5_goOn) ⟨rfl, rfl⟩ ⟨rfl, by decide, by decide, by decide⟩ ⟨Nat.le_of_ble_eq_true rfl, Nat.le_of_ble_eq_true rfl⟩ (by decide) rfl rfl rfl rfl rfl (Nat.le_of_ble_eq_true rfl) dX5_run_120 (fun Mu9 qu9 => ?_)
                    refine r_iinc C (nI (c + 1)) [(4, .int (nI (c + 1))), (3, .int (nI (cdN d bb 4))), (0, .ref (ad 130)), (1, .ref (ad (gO 0))), (2, .int (nI size))] dX5_run_123 (j := 0) rfl (inc_n c 1) (by decide) rfl ?_
                    refine r_goto C 37 dX5_run_126 (by decide) ?_
                    refine r_lv (lv2 := [(4, .int (nI (c + 1))), (3, .int (nI (cdN d bb 4))), (0, .ref (ad 130)), (1, .ref (ad (gO 0))), (2, .int (nI size))]) [0, 1, 2, 3, 4] rfl ?_
                    exact ih_c (c + 1) _ (by omega) (by omega) (rn_go hmid qu9)
                  ·
                    refine r_aload_n C dX5_run_89 rfl 2 rfl ?_
                    refine r_get C (Cn := RX5) (T := TX5) (N := 4) (id := 130) (by decide) inw_X5 rfl rfl 1 (by decide) rfl fl_X5_18 rfl dX5_run_90 ?_
                    refine r_aload_n C dX5_run_93 rfl 2 rfl ?_
                    refine r_get C (Cn := RX5) (T := TX5) (N := 4) (id := 130) (by decide) inw_X5 rfl rfl 3 (by decide) rfl fl_X5_25 rfl dX5_run_94 ?_
                    refine r_callV_v (nA := 1) C (Nat.le_of_ble_eq_true rfl) [.ref (ad 134)] (c_X0_copyFrom l D cs ad Mu6  132 (by decide) (fun _ _ => rfl) 134 (by decide) (fun _ _ => rfl) (by decide) (bcS wt U (S c) (H c) n) qu6.2) (tt_V ml_X5_63 im_X0_copyFrom se_X0_copyFrom in_X0 co_X0_copyFrom) ⟨rfl, rfl⟩ ⟨rfl, by decide, by decide, by decide⟩ ⟨Nat.le_of_ble_eq_true rfl, Nat.le_of_ble_eq_true rfl⟩ (by decide) rfl rfl rfl rfl rfl (Nat.le_of_ble_eq_true rfl) dX5_run_97 (fun Mu10 qu10 => ?_)
                    refine r_aload_n C dX5_run_100 rfl 2 rfl ?_
                    refine r_get C (Cn := RX5) (T := TX5) (N := 4) (id := 130) (by decide) inw_X5 rfl rfl 2 (by decide) rfl fl_X5_22 rfl dX5_run_101 ?_
                    refine r_iconst C (nI 0) dX5_run_104 (by decide) ?_
                    refine r_aload_n C dX5_run_105 rfl 2 rfl ?_
                    refine r_get C (Cn := RX5) (T := TX5) (N := 4) (id := 130) (by decide) inw_X5 rfl rfl 0 (by decide) rfl fl_X5_9 rfl dX5_run_106 ?_
                    refine r_iconst C (nI 0) dX5_run_109 (by decide) ?_
                    refine r_iconst C (nI 4) dX5_run_110 (by decide) ?_
                    refine r_copyi C (id0 := 133) (id1 := 131) (n0 := 4) (n1 := 4) (a := 0) (b := 0) (n := 4) (by decide) (by decide) rfl (fun _ => rfl) (by decide) (by decide) (by decide) (by decide) ml_X5_67 na_acopy st_acopy in_J10 (Nat.le_of_ble_eq_true rfl) (Nat.le_of_ble_eq_true rfl) dX5_run_111 ?_
                    have hmid := rn_take hI_c qu6.1 qu10 rfl (if_pos ⟨hup, Or.inr (of_decide_eq_true h86)⟩)
                    refine r_aload_n C dX5_run_114 rfl 2 rfl ?_
                    refine r_aload_n C dX5_run_115 rfl 3 rfl ?_
                    refine r_get C (Cn := RX4) (T := TX4) (N := 6) (id := (gO 0)) (by simp only [gO, gN, gW, gL, gR, gH] <;> omega) inw_X4 (wF_O cs ad (by decide) _ _) rfl 1 (by decide) rfl fl_X5_43 rfl dX5_run_116 ?_
                    refine r_topi (w := (Mu10.1 (gO 0) 1)) (by rw [mA_ne _ (show gO 0 ≠ 131 from (by simp only [gO, gN, gW, gL, gR, gH] <;> omega))]) ?_
                    refine r_topi (w := nI d) ((congrFun (hmid.1 _ (by decide)).1 1).trans hg.2.1) ?_
                    refine r_iload_n C dX5_run_119 rfl 4 rfl ?_
                    refine r_callV_v (nA := 2) C (Nat.le_of_ble_eq_true rfl) [.int (nI d), .int (nI size)] (c_X5_goOn l D cs ad (mA Mu10 131 (va_cpy (Mu10.1 133) (Mu10.1 131) 0 0 4))  d hd4 size bb hbb hs1 hs2 c (Nat.lt_of_lt_of_le hcb (pb_le (by omega) hd4)) hmid.2.1) (tt_V ml_X5_73 im_X5_goOn se_X5_goOn in_X5 co_X5_goOn) ⟨rfl, rfl⟩ ⟨rfl, by decide, by decide, by decide⟩ ⟨Nat.le_of_ble_eq_true rfl, Nat.le_of_ble_eq_true rfl⟩ (by decide) rfl rfl rfl rfl rfl (Nat.le_of_ble_eq_true rfl) dX5_run_120 (fun Mu11 qu11 => ?_)
                    refine r_iinc C (nI (c + 1)) [(4, .int (nI (c + 1))), (3, .int (nI (cdN d bb 4))), (0, .ref (ad 130)), (1, .ref (ad (gO 0))), (2, .int (nI size))] dX5_run_123 (j := 0) rfl (inc_n c 1) (by decide) rfl ?_
                    refine r_goto C 37 dX5_run_126 (by decide) ?_
                    refine r_lv (lv2 := [(4, .int (nI (c + 1))), (3, .int (nI (cdN d bb 4))), (0, .ref (ad 130)), (1, .ref (ad (gO 0))), (2, .int (nI size))]) [0, 1, 2, 3, 4] rfl ?_
                    exact ih_c (c + 1) _ (by omega) (by omega) (rn_go hmid qu11)
          ·
            refine r_get C (Cn := RX5) (T := TX5) (N := 4) (id := 130) (by decide) inw_X5 rfl rfl 3 (by decide) rfl fl_X5_25 rfl dX5_run_44 ?_
            refine r_aload_n C dX5_run_47 rfl 3 rfl ?_
            refine r_aload_n C dX5_run_48 rfl 2 rfl ?_
            refine r_get C (Cn := RX5) (T := TX5) (N := 4) (id := 130) (by decide) inw_X5 rfl rfl 2 (by decide) rfl fl_X5_22 rfl dX5_run_49 ?_
            refine r_ncallV_v (nA := 2) C hN (Nat.le_of_ble_eq_true rfl) [.ref (ad (gO 0)), .ref (ad 133)] (c_X0_measureN l D cs ad M3  134 (by decide) (by decide) (fun _ _ => rfl) 133 (by decide) (by decide) (fun _ _ => rfl) (hnR z d c bb size d) n d (tr_gv hg hn8 hd4 hz0 hI_c) hn8 hup) (tt_V ml_X5_51 im_X0_measure se_X0_measure in_X0 co_X0_measure) ⟨rfl, rfl⟩ ⟨rfl, by decide, by decide, by decide⟩ ⟨Nat.le_of_ble_eq_true rfl, Nat.le_of_ble_eq_true rfl⟩ (by decide) rfl rfl rfl rfl rfl (Nat.le_of_ble_eq_true rfl) dX5_run_52 (fun Mu12 qu12 => ?_)
            refine r_aload_n C dX5_run_55 rfl 2 rfl ?_
            refine r_get C (Cn := RX5) (T := TX5) (N := 4) (id := 130) (by decide) inw_X5 rfl rfl 3 (by decide) rfl fl_X5_25 rfl dX5_run_56 ?_
            refine r_get C (Cn := RX0) (T := TX0) (N := 4) (id := 134) (by decide) inw_X0 rfl rfl 0 (by decide) rfl fl_X5_55 rfl dX5_run_59 ?_
            refine r_topi (w := bI false) qu12.2.1 ?_
            refine r_ifB_eq C 114 dX5_run_62 (by decide) (fun h62 => ?_) (fun h62 => ?_)
            ·
              have hmid := rn_keep hI_c qu12.1 (if_neg (fun w => hup w.1))
              refine r_aload_n C dX5_run_114 rfl 2 rfl ?_
              refine r_aload_n C dX5_run_115 rfl 3 rfl ?_
              refine r_get C (Cn := RX4) (T := TX4) (N := 6) (id := (gO 0)) (by simp only [gO, gN, gW, gL, gR, gH] <;> omega) inw_X4 (wF_O cs ad (by decide) _ _) rfl 1 (by decide) rfl fl_X5_43 rfl dX5_run_116 ?_
              refine r_topi (w := nI d) ((congrFun (hmid.1 _ (by decide)).1 1).trans hg.2.1) ?_
              refine r_iload_n C dX5_run_119 rfl 4 rfl ?_
              refine r_callV_v (nA := 2) C (Nat.le_of_ble_eq_true rfl) [.int (nI d), .int (nI size)] (c_X5_goOn l D cs ad Mu12  d hd4 size bb hbb hs1 hs2 c (Nat.lt_of_lt_of_le hcb (pb_le (by omega) hd4)) hmid.2.1) (tt_V ml_X5_73 im_X5_goOn se_X5_goOn in_X5 co_X5_goOn) ⟨rfl, rfl⟩ ⟨rfl, by decide, by decide, by decide⟩ ⟨Nat.le_of_ble_eq_true rfl, Nat.le_of_ble_eq_true rfl⟩ (by decide) rfl rfl rfl rfl rfl (Nat.le_of_ble_eq_true rfl) dX5_run_120 (fun Mu13 qu13 => ?_)
              refine r_iinc C (nI (c + 1)) [(4, .int (nI (c + 1))), (3, .int (nI (cdN d bb 4))), (0, .ref (ad 130)), (1, .ref (ad (gO 0))), (2, .int (nI size))] dX5_run_123 (j := 0) rfl (inc_n c 1) (by decide) rfl ?_
              refine r_goto C 37 dX5_run_126 (by decide) ?_
              refine r_lv (lv2 := [(4, .int (nI (c + 1))), (3, .int (nI (cdN d bb 4))), (0, .ref (ad 130)), (1, .ref (ad (gO 0))), (2, .int (nI size))]) [0, 1, 2, 3, 4] rfl ?_
              exact ih_c (c + 1) _ (by omega) (by omega) (rn_go hmid qu13)
            · exact absurd (h62.symm.trans (rfl : false = false)) (by decide)
    refine r_lv (lv2 := [(4, .int (nI 0)), (3, .int (nI (cdN d bb 4))), (0, .ref (ad 130)), (1, .ref (ad (gO 0))), (2, .int (nI size))]) [0, 1, 2, 3, 4] rfl ?_
    exact Lp ((cdN d bb 4) + 1) 0 _ (by omega) (by omega) ⟨((qu1.1.H (by decide)).tr (qu2.1.H (by decide))).tr (hbe9.1.H (by decide)), hbe9.2, ⟨fun _ => bd_kN qu2.2 (hbe9.1.1 132 (by decide)) (by rw [hbe9.1.2]), fun q => absurd q (Nat.lt_irrefl 0)⟩, fun p hp => by rw [hbe9.1.1 131 (by decide), qu2.1.1 131 (by decide)]; exact qu1.2 p hp⟩
  · exact absurd hfu h20
set_option maxRecDepth 100000 in
set_option maxHeartbeats 4000000 in
theorem c_X5_answer (l : Launch) (D : va_G) (cs : Nat → ClassId) (ad : Nat → Nat) (M : Mm) (w : Nat) (hw : w ≤ 1 ∨ (10 ≤ w ∧ w ≤ 13)) (x y : Int64) (t : Int32) (hp1 : M.2 132 1 = x) (hp2 : M.2 132 2 = y) (hp3 : M.1 132 3 = t) : ∀ sz : Nat, Met l yX5_answer (.code yX5_answer cX5_answer 2 (some .long) :: TT) { frames := 1, cells := 0, slots := 0, locals := 21 } (va_Pc [.ref (ad 130), .int (nI w)] (fun U9 => U9.heap.size = sz ∧ wB D cs ad (fA ad sz) M U9)) (va_Ql (fun r M2 => r = (if w = 0 then x else if w = 1 then y else (M.1 131 (w - 10)).toInt64) ∧ M2 = M) (wB D cs ad (fA ad sz)) (fA ad sz)) 0 0 (fA ad sz) := by
  refine st_L (by decide) (Nat.le_of_ble_eq_true rfl) (fun κ C E => ?_)
  refine r_lv (lv2 := [(0, .ref (ad 130)), (1, .int (nI w))]) [0, 1] rfl ?_
  refine r_iload_n C dX5_answer_0 rfl 1 rfl ?_
  refine r_bipush C (nI 10) dX5_answer_1 (by decide) ?_
  refine r_icmpN_ge C 17 dX5_answer_3 (by decide) (by omega) (by omega) (fun h3 => ?_) (fun h3 => ?_)
  ·
    refine r_aload_n C dX5_answer_17 rfl 0 rfl ?_
    refine r_get C (Cn := RX5) (T := TX5) (N := 4) (id := 130) (by decide) inw_X5 rfl rfl 0 (by decide) rfl fl_X5_9 rfl dX5_answer_18 ?_
    refine r_iload_n C dX5_answer_21 rfl 1 rfl ?_
    refine r_bipush C (nI 10) dX5_answer_22 (by decide) ?_
    refine r_isub C dX5_answer_24 ?_
    refine r_topi (pk_sub (a := w) (b := 10) (by omega)) ?_
    refine r_iald C (id := 131) (n := 4) (a := w - 10) (by decide) rfl (by omega) (by decide) dX5_answer_25 ?_
    refine r_i2l C dX5_answer_26 ?_
    exact E 0 _ _ _ _ (Nat.le_of_ble_eq_true rfl) dX5_answer_27 (⟨by rw [if_neg (by omega), if_neg (by omega)], rfl⟩)
  ·
    refine r_aload_n C dX5_answer_6 rfl 0 rfl ?_
    refine r_get C (Cn := RX5) (T := TX5) (N := 4) (id := 130) (by decide) inw_X5 rfl rfl 1 (by decide) rfl fl_X5_18 rfl dX5_answer_7 ?_
    refine r_iload_n C dX5_answer_10 rfl 1 rfl ?_
    refine r_pcallV_l (nA := 1) C (Nat.le_of_ble_eq_true rfl) [.int (nI w)] (c_X0_partOf l D cs ad M  132 (by decide) (fun _ _ => rfl) w (by omega) x y t hp1 hp2 hp3) (tt_V ml_X5_80 im_X0_partOf se_X0_partOf in_X0 co_X0_partOf) ⟨rfl, rfl⟩ ⟨rfl, by decide, by decide, by decide⟩ ⟨Nat.le_of_ble_eq_true rfl, Nat.le_of_ble_eq_true rfl⟩ (by decide) rfl rfl rfl rfl rfl (Nat.le_of_ble_eq_true rfl) dX5_answer_11 ?_
    refine r_goto C 27 dX5_answer_14 (by decide) ?_
    exact E 0 _ _ _ _ (Nat.le_of_ble_eq_true rfl) dX5_answer_27 (⟨by split; rfl; split; rfl; exact absurd h3 (by omega), rfl⟩)
