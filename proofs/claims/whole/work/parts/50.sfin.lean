/-! ===== pure: each call's end; rows for the law's own method (by hand) ===== -/
theorem MS.pre {Mu Mu2 M3 : Mm} {s : Nat} {g : Nat → Int32} {l5 : Int32} (h : MS Mu2 M3 s g l5) (h1 : ∀ i, i ≠ 135 → ¬ (141 ≤ i ∧ i ≤ 144) → Mu2.1 i = Mu.1 i) (h2 : Mu2.2 145 = Mu.2 145) : MS Mu M3 s g l5 := by
  obtain ⟨a1, a2, a3, a4, a5, a6, a7, a8, a9, a10⟩ := h
  exact ⟨fun i hi => by rw [a1 i hi, h1 i (by omega) (by omega)], a2, by rw [a3, h1 137 (by decide) (by decide), h1 136 (by decide) (by decide)], by rw [a4, h1 138 (by decide) (by decide)], by rw [a5, h1 139 (by decide) (by decide)], by rw [a6, h1 140 (by decide) (by decide)], a7, a8, a9, a10.trans h2⟩
section SF
variable {M M9 Mu M3 : Mm} {s lt len n d : Nat} {ct : Nat → Nat} {v : Int64}
/-- a call that has saved, and changed the graph alone -/
theorem S_ch (hX : RX M s lt len ct n d) {y z2 g : Nat → Int32} {n2 d2 : Nat} (hc : chP M M9 (M.1 136) n d lt s y n2 d2) (hz2 : gz z2 n2 d2) (hy : ∀ j, j < 54 → z2 j = y j) (h54 : z2 54 = M.1 136 54) (e1 : Mu.1 = M9.1) (e2 : Mu.2 145 0 = v) (hMS : MS Mu M3 s g (Mu.1 135 5)) (hg : ∀ j, j < 55 → g j = z2 j) : M3.1 135 7 = nI 0 ∧ M3.2 145 0 = v ∧ RR M3 := by
  obtain ⟨M1, h1, h2, h3⟩ := hc
  have hlt := hX.2.2.2.2.1.2.1
  have o : ∀ i, 13 ≤ i → M9.1 i = M1.1 i := fun i hi => h2.1 i (by omega)
  have l5 : Mu.1 135 5 = nI len := by rw [e1, o 135 (by decide), sv_id h1 hlt (by omega)]; exact hX.2.2.2.2.2.2.2.1
  rw [l5] at hMS
  exact S_sv hX (Ms := M) (fun _ _ => rfl) h1 (fun i hi _ _ => o i hi) hz2 (gv_cg h3 hz2.2.2.1.2 (fun j hj => hy j hj)) (by rw [o 117 (by decide), sv_id h1 hlt (by omega), hX.2.2.1, h54]) (len2 := len) (by rw [o 123 (by decide), sv_id h1 hlt (by omega)]; exact hX.2.2.2.2.2.1.1) (Nat.le_refl _) e1 e2 hMS hg
/-- one number of the graph changed -/
theorem S_up (hX : RX M s lt len ct n d) {M1 : Mm} (h1 : svP M M1 (M.1 136) n d lt s (M.1 117 9)) {id k k2 : Nat} {x : Int32} (hid : id < 13) (h9 : M9 = mI M1 id k x) (hz2 : gz (upd (M.1 136) k2 x) n d) (hv : gv (mI M1 id k x) 0 (gH 0) (upd (M.1 136) k2 x) n d) (hk2 : k2 < 54) (e1 : Mu.1 = M9.1) (e2 : Mu.2 145 0 = v) (hMS : MS Mu M3 s (upd (M.1 136) k2 x) (Mu.1 135 5)) : M3.1 135 7 = nI 0 ∧ M3.2 145 0 = v ∧ RR M3 := by
  subst h9
  have hlt := hX.2.2.2.2.1.2.1
  have o : ∀ i, 13 ≤ i → (mI M1 id k x).1 i = M1.1 i := fun i hi => mI_ne _ (by omega)
  have l5 : Mu.1 135 5 = nI len := by rw [e1, o 135 (by decide), sv_id h1 hlt (by omega)]; exact hX.2.2.2.2.2.2.2.1
  rw [l5] at hMS
  exact S_sv hX (Ms := M) (fun _ _ => rfl) h1 (fun i hi _ _ => o i hi) hz2 hv (by rw [o 117 (by decide), sv_id h1 hlt (by omega), hX.2.2.1, upd_n _ _ (by omega)]) (len2 := len) (by rw [o 123 (by decide), sv_id h1 hlt (by omega)]; exact hX.2.2.2.2.2.1.1) (Nat.le_refl _) e1 e2 hMS (fun _ _ => rfl)
theorem gv_uw {M1 : Mm} {z : Nat → Int32} {k : Nat} {x : Int32} (h : gv M1 0 (gH 0) z n d) (hn : n ≤ 8) (hk : k < n) : gv (mI M1 (gW 0) k x) 0 (gH 0) (upd z (2 + k) x) n d := by
  obtain ⟨g1, g2, g3, g4, g5, g6⟩ := h
  refine ⟨by rw [mI_ne _ (by decide)]; exact g1, by rw [mI_ne _ (by decide)]; exact g2, fun v hv => by rw [mI_ne _ (by decide), g3 v hv, upd_n _ _ (by omega)], fun v hv => ?_, fun v p hv hp => by rw [mI_ne _ (by simp only [gR, gW]; omega), g5 v p hv hp, upd_n _ _ (by omega)], fun p hp => by rw [mI_ne _ (by decide), g6 p hp, upd_n _ _ (by omega)]⟩
  rw [mI_eq]
  by_cases q : v = k
  · subst q; rw [upd_e, upd_e]
  · rw [upd_n _ _ q, upd_n _ _ (by omega)]; exact g4 v hv
theorem gv_ul {M1 : Mm} {z : Nat → Int32} {v9 p9 : Nat} {x : Int32} (h : gv M1 0 (gH 0) z n d) (hn : n ≤ 8) (hk : v9 < n) (hp9 : p9 < 4) : gv (mI M1 (gR 0 v9) p9 x) 0 (gH 0) (upd z (18 + 4 * v9 + p9) x) n d := by
  obtain ⟨g1, g2, g3, g4, g5, g6⟩ := h
  refine ⟨by rw [mI_ne _ (by simp only [gR, gO]; omega)]; exact g1, by rw [mI_ne _ (by simp only [gR, gO]; omega)]; exact g2, fun v hv => by rw [mI_ne _ (by simp only [gR, gN]; omega), g3 v hv, upd_n _ _ (by omega)], fun v hv => by rw [mI_ne _ (by simp only [gR, gW]; omega), g4 v hv, upd_n _ _ (by omega)], fun v p hv hp => ?_, fun p hp => by rw [mI_ne _ (by simp only [gR, gH]; omega), g6 p hp, upd_n _ _ (by omega)]⟩
  by_cases q : v = v9
  · subst q
    rw [mI_eq]
    by_cases w : p = p9
    · subst w; rw [upd_e, upd_e]
    · rw [upd_n _ _ w, upd_n _ _ (by omega)]; exact g5 v p hv hp
  · rw [mI_ne _ (by simp only [gR]; omega), g5 v p hv hp, upd_n _ _ (by omega)]
theorem gv_uh {M1 : Mm} {z : Nat → Int32} {p9 : Nat} {x : Int32} (h : gv M1 0 (gH 0) z n d) (hn : n ≤ 8) (hp9 : p9 < 4) : gv (mI M1 (gH 0) p9 x) 0 (gH 0) (upd z (50 + p9) x) n d := by
  obtain ⟨g1, g2, g3, g4, g5, g6⟩ := h
  refine ⟨by rw [mI_ne _ (by decide)]; exact g1, by rw [mI_ne _ (by decide)]; exact g2, fun v hv => by rw [mI_ne _ (by decide), g3 v hv, upd_n _ _ (by omega)], fun v hv => by rw [mI_ne _ (by decide), g4 v hv, upd_n _ _ (by omega)], fun v p hv hp => by rw [mI_ne _ (by simp only [gR, gH]; omega), g5 v p hv hp, upd_n _ _ (by omega)], fun p hp => ?_⟩
  rw [mI_eq]
  by_cases q : p = p9
  · subst q; rw [upd_e, upd_e]
  · rw [upd_n _ _ q, upd_n _ _ (by omega)]; exact g6 p hp
/-- the whole handle changed -/
theorem gv_ua {M1 : Mm} {z g f : Nat → Int32} (h : gv M1 0 (gH 0) z n d) (hn : n ≤ 8) (hf : ∀ p, p < 4 → f p = g p) : gv (mA M1 (gH 0) f) 0 (gH 0) (rsK z g 4) n d := by
  obtain ⟨g1, g2, g3, g4, g5, g6⟩ := h
  have hr : ∀ j, j < 50 → rsK z g 4 j = z j := fun j hj => by unfold rsK; rw [if_neg (by omega)]
  refine ⟨by rw [mA_ne _ (by decide)]; exact g1, by rw [mA_ne _ (by decide)]; exact g2, fun v hv => by rw [mA_ne _ (by decide), g3 v hv, hr _ (by omega)], fun v hv => by rw [mA_ne _ (by decide), g4 v hv, hr _ (by omega)], fun v p hv hp => by rw [mA_ne _ (by simp only [gR, gH]; omega), g5 v p hv hp, hr _ (by omega)], fun p hp => ?_⟩
  rw [mA_eq, hf p hp]; unfold rsK; rw [if_pos (by omega), show 50 + p - 50 = p by omega]
theorem S_lc (hX : RX M s lt len ct n d) {M1 M8 : Mm} (h1 : fnP (M.1 136) n M M1) (h2 : svP M1 M8 (M.1 136) n d lt s (M1.1 117 9)) (h3 : oG 0 M8 M9) {z2 : Nat → Int32} (h4 : gv M9 0 (gH 0) z2 n d) (hz2 : gz z2 n d) (h54 : z2 54 = M.1 136 54) (e1 : Mu.1 = M9.1) (e2 : Mu.2 145 0 = v) (hMS : MS Mu M3 s z2 (Mu.1 135 5)) : M3.1 135 7 = nI 0 ∧ M3.2 145 0 = v ∧ RR M3 := by
  have hlt := hX.2.2.2.2.1.2.1
  have m1 : ∀ i, ¬ (125 ≤ i ∧ i ≤ 134) → M1.1 i = M.1 i := fun i hi => h1.1 i (by omega) (by omega)
  have o : ∀ i, 13 ≤ i → M9.1 i = M8.1 i := fun i hi => h3.1 i (by omega)
  have l5 : Mu.1 135 5 = nI len := by rw [e1, o 135 (by decide), sv_id h2 hlt (by omega), m1 135 (by decide)]; exact hX.2.2.2.2.2.2.2.1
  rw [l5] at hMS
  exact S_sv hX m1 h2 (fun i hi _ _ => o i hi) hz2 h4 (by rw [o 117 (by decide), sv_id h2 hlt (by omega), m1 117 (by decide), hX.2.2.1, h54]) (len2 := len) (by rw [o 123 (by decide), sv_id h2 hlt (by omega), m1 123 (by decide)]; exact hX.2.2.2.2.2.1.1) (Nat.le_refl _) e1 e2 hMS (fun _ _ => rfl)
theorem S_rd (hX : RX M s lt len ct n d) {M1 M8 : Mm} (h1 : svP M M1 (M.1 136) n d lt s (M.1 117 9)) (h2 : oG 0 M1 M8) {z2 : Nat → Int32} (h3 : gv M8 0 (gH 0) z2 n d) (h4 : M9 = mI M8 123 1 (nI 0)) (hz2 : gz z2 n d) (h54 : z2 54 = M.1 136 54) (e1 : Mu.1 = M9.1) (e2 : Mu.2 145 0 = v) (hMS : MS Mu M3 s z2 (nI 0)) : M3.1 135 7 = nI 0 ∧ M3.2 145 0 = v ∧ RR M3 := by
  subst h4
  have hlt := hX.2.2.2.2.1.2.1
  have o : ∀ i, 13 ≤ i → M8.1 i = M1.1 i := fun i hi => h2.1 i (by omega)
  exact S_sv hX (Ms := M) (fun _ _ => rfl) h1 (fun i hi _ h => by rw [mI_ne _ h]; exact o i hi) hz2 (gv_k h3 hz2.2.2.1.2 (fun i hi => mI_ne _ (by simp only [gH] at hi; omega))) (by rw [mI_ne _ (by decide), o 117 (by decide), sv_id h1 hlt (by omega), hX.2.2.1, h54]) (len2 := 0) (by rw [mI_eq, upd_e]) (Nat.zero_le _) e1 e2 hMS (fun _ _ => rfl)
theorem S_mu (hX : RX M s lt len ct n d) {M1 M8 : Mm} (h1 : svP M M1 (M.1 136) n d lt s (M.1 117 9)) (h2 : oG 0 M1 M8) {y z2 g : Nat → Int32} {n2 d2 : Nat} (h3 : gv M8 0 (gH 0) y n2 d2) (h4 : M9 = mI M8 117 9 (M.1 117 9 + nI 1)) (hz2 : gz z2 n2 d2) (hy : ∀ j, j < 54 → z2 j = y j) (h54 : z2 54 = M.1 136 54 + nI 1) (e1 : Mu.1 = M9.1) (e2 : Mu.2 145 0 = v) (hMS : MS Mu M3 s g (Mu.1 135 5)) (hg : ∀ j, j < 55 → g j = z2 j) : M3.1 135 7 = nI 0 ∧ M3.2 145 0 = v ∧ RR M3 := by
  subst h4
  have hlt := hX.2.2.2.2.1.2.1
  have o : ∀ i, 13 ≤ i → M8.1 i = M1.1 i := fun i hi => h2.1 i (by omega)
  have l5 : Mu.1 135 5 = nI len := by rw [e1, mI_ne _ (by decide), o 135 (by decide), sv_id h1 hlt (by omega)]; exact hX.2.2.2.2.2.2.2.1
  rw [l5] at hMS
  exact S_sv hX (Ms := M) (fun _ _ => rfl) h1 (fun i hi h _ => by rw [mI_ne _ h]; exact o i hi) hz2 (gv_cg (gv_k h3 hz2.2.2.1.2 (fun i hi => mI_ne _ (by simp only [gH] at hi; omega))) hz2.2.2.1.2 (fun j hj => hy j hj)) (by rw [mI_eq, upd_e, hX.2.2.1, h54]) (len2 := len) (by rw [mI_ne _ (by decide), o 123 (by decide), sv_id h1 hlt (by omega)]; exact hX.2.2.2.2.2.1.1) (Nat.le_refl _) e1 e2 hMS hg
theorem S_th (hX : RX M s lt len ct n d) {size b : Nat} {wt U : Nat → Nat} {S : Nat → Nat → Nat} {H : Nat → Nat} (hs2 : size ≤ 2) (hb : 2 * size + 1 = b) {M1 M8 M7 : Mm} {v9 r : Int32} (h1 : rnA (M.1 136) n d b size wt U S H M M1) (h2 : svP M1 M8 (M.1 136) n d lt s (M1.1 117 9))
    (h3 : (0 < (lbF (M.1 136) n d b size wt U S H).2.1 ∧ v9 = nI 1 ∧ M9 = mA M8 (gH 0) (va_cpy (M8.1 131) (M8.1 (gH 0)) 0 0 4)) ∨ (¬ 0 < (lbF (M.1 136) n d b size wt U S H).2.1 ∧ v9 = nI 0 ∧ M9 = M8)) (e1 : Mu.1 = M9.1) (e2 : Mu.2 145 0 = v9.toInt64) (hS : SC (saveM (mI Mu 135 7 (nI 0)) s) M7)
    (h5 : (0 < (lbF (M.1 136) n d b size wt U S H).2.1 ∧ r = nI 1 ∧ M3 = mA M7 136 (rsK (M.1 136) (fun p => bsD (M.1 136) d b size (lbF (M.1 136) n d b size wt U S H).2.2 p) 4)) ∨ (¬ 0 < (lbF (M.1 136) n d b size wt U S H).2.1 ∧ r = nI 0 ∧ M3 = M7)) : M3.1 135 7 = nI 0 ∧ M3.2 145 0 = r.toInt64 ∧ RR M3 := by
  have hlt := hX.2.2.2.2.1.2.1
  have m1 : ∀ i, ¬ (125 ≤ i ∧ i ≤ 134) → M1.1 i = M.1 i := fun i hi => (h1.1 i (by omega)).1
  obtain ⟨e, hq⟩ := gz_gq hX.1
  have hn := hX.1.2.2.1.2
  have g8 : gv M8 0 (gH 0) (M.1 136) n d := sv_gv h2 hlt (rn_gv h1 hX.2.1 hn) hn (by decide) (by decide)
  rcases h3 with ⟨f1, f2, f3⟩ | ⟨f1, f2, f3⟩
  · rcases h5 with ⟨-, r2, r3⟩ | ⟨r1, -, -⟩
    · subst r3; subst r2; subst f2
      have o : ∀ i, 13 ≤ i → M9.1 i = M8.1 i := fun i hi => by rw [f3]; exact mA_ne _ (by simp only [gH]; omega)
      have l5 : Mu.1 135 5 = nI len := by rw [e1, o 135 (by decide), sv_id h2 hlt (by omega), m1 135 (by decide)]; exact hX.2.2.2.2.2.2.2.1
      have hMS := ((ms_0 Mu s).S hS).A (f := rsK (M.1 136) (fun p => bsD (M.1 136) d b size (lbF (M.1 136) n d b size wt U S H).2.2 p) 4)
      rw [l5] at hMS
      refine S_sv hX m1 h2 (fun i hi _ _ => o i hi) (gq_gz (gq_hn hq (bs_ok hq hs2 hb))) (by rw [f3]; exact gv_ua g8 hn (fun p hp => by rw [cy_at hp, sv_id h2 hlt (by omega)]; exact h1.2.2.2 p hp)) ?_ (len2 := len) (by rw [o 123 (by decide), sv_id h2 hlt (by omega), m1 123 (by decide)]; exact hX.2.2.2.2.2.1.1) (Nat.le_refl _) e1 e2 hMS (fun _ _ => rfl)
      rw [o 117 (by decide), sv_id h2 hlt (by omega), m1 117 (by decide), hX.2.2.1]; unfold rsK; rw [if_neg (by decide)]
    · exact absurd f1 r1
  · rcases h5 with ⟨r1, -, -⟩ | ⟨-, r2, r3⟩
    · exact absurd r1 f1
    · subst r3; subst r2; subst f2; subst f3
      have l5 : Mu.1 135 5 = nI len := by rw [e1, sv_id h2 hlt (by omega), m1 135 (by decide)]; exact hX.2.2.2.2.2.2.2.1
      have hMS := (ms_0 Mu s).S hS
      rw [l5] at hMS
      exact S_sv hX m1 h2 (fun i hi _ _ => rfl) hX.1 g8 (by rw [sv_id h2 hlt (by omega), m1 117 (by decide), hX.2.2.1]) (len2 := len) (by rw [sv_id h2 hlt (by omega), m1 123 (by decide)]; exact hX.2.2.2.2.2.1.1) (Nat.le_refl _) e1 e2 hMS (fun j _ => by rw [e1, sv_id h2 hlt (by omega), m1 136 (by decide)])
/-- a character more -/
theorem S_ap (hX : RX M s lt len ct n d) {c : Nat} (hc1 : 33 ≤ c) (hc2 : c ≤ 126) (hl : len < 60) (h9 : M9 = mI (mI M 124 len (nI c)) 123 1 (nI (len + 1))) (e1 : Mu.1 = M9.1) (e2 : Mu.2 145 0 = v) (h3 : M3 = mI (mI (mI Mu 135 7 (nI 0)) 140 len (nI c)) 135 5 (nI (len + 1))) : M3.1 135 7 = nI 0 ∧ M3.2 145 0 = v ∧ RR M3 := by
  subst h9; subst h3
  obtain ⟨hz, hgv, hpm, hks, hkh, hkt, hms, hml, htx⟩ := hX
  have c9 : ∀ i, i ≠ 123 → i ≠ 124 → (mI (mI M 124 len (nI c)) 123 1 (nI (len + 1))).1 i = M.1 i := fun i h1 h2 => by rw [mI_ne _ h1, mI_ne _ h2]
  have b : ∀ i, i ≠ 135 → i ≠ 140 → (mI (mI (mI Mu 135 7 (nI 0)) 140 len (nI c)) 135 5 (nI (len + 1))).1 i = (mI (mI M 124 len (nI c)) 123 1 (nI (len + 1))).1 i := fun i h1 h2 => by rw [mI_ne _ h1, mI_ne _ h2, mI_ne _ h1, e1]
  refine ⟨by rw [mI_eq, upd_n _ _ (by decide), mI_ne _ (by decide), mI_eq, upd_e], e2, ?_⟩
  refine RR_mk (M9 := mI (mI M 124 len (nI c)) 123 1 (nI (len + 1))) (q2 := fun k p => M.1 138 (55 * k + p)) (h2 := fun j p => M.1 137 (55 * j + p)) (tk2 := M.1 139) (ct2 := fun k => if k = len then c else ct k) (lt2 := lt) (s2 := s) (len2 := len + 1) hz (gv_k hgv hz.2.2.1.2 (fun i hi => c9 i (by simp only [gH] at hi; omega) (by simp only [gH] at hi; omega))) (by rw [c9 117 (by decide) (by decide)]; exact hpm) (hks.k (fun i _ _ => c9 i (by omega) (by omega)) (fun k _ => by rw [c9 119 (by decide) (by decide)]) (fun _ _ => rfl) (fun _ _ _ _ => rfl)) (hkh.k (fun i _ _ => c9 i (by omega) (by omega)) (c9 120 (by decide) (by decide)) (c9 122 (by decide) (by decide)) (fun _ _ _ _ => rfl)) ⟨by rw [mI_eq, upd_e], by omega, fun k hk => ?_⟩ (fun i hi => b i (by omega) (by omega)) (fun j hj => by rw [b 136 (by decide) (by decide), c9 136 (by decide) (by decide)]) (fun j p _ _ => by rw [b 137 (by decide) (by decide), c9 137 (by decide) (by decide)]) (fun k p _ _ => by rw [b 138 (by decide) (by decide), c9 138 (by decide) (by decide)]) (fun k _ => by rw [b 139 (by decide) (by decide), c9 139 (by decide) (by decide)]) ?_ ?_ (fun k hk => ?_)
  · rw [mI_ne _ (by decide), mI_eq]
    by_cases q : k = len
    · subst q; dsimp only; rw [upd_e, if_pos rfl]; exact ⟨rfl, hc1, hc2⟩
    · dsimp only; rw [upd_n _ _ q, if_neg q]; exact hkt.2.2 k (by omega)
  · rw [mI_eq, upd_n _ _ (by decide), mI_ne _ (by decide), mI_eq, upd_n _ _ (by decide), e1, c9 135 (by decide) (by decide)]; exact hms
  · rw [mI_eq, upd_e]
  · rw [mI_ne _ (by decide), mI_eq]
    by_cases q : k = len
    · subst q; rw [upd_e, if_pos rfl]
    · rw [upd_n _ _ q, if_neg q, mI_ne _ (by decide), e1, c9 140 (by decide) (by decide)]; exact htx k (by omega)
/-- the text cleared -/
theorem S_cl (hX : RX M s lt len ct n d) (h9 : M9 = mI M 123 1 (nI 0)) (h3 : M3 = mI (mI M9 135 7 (nI 0)) 135 5 (nI 0)) : RR M3 := by
  subst h9; subst h3
  obtain ⟨hz, hgv, hpm, hks, hkh, hkt, hms, hml, htx⟩ := hX
  have c9 : ∀ i, i ≠ 123 → (mI M 123 1 (nI 0)).1 i = M.1 i := fun i h1 => mI_ne _ h1
  have b : ∀ i, i ≠ 135 → (mI (mI (mI M 123 1 (nI 0)) 135 7 (nI 0)) 135 5 (nI 0)).1 i = (mI M 123 1 (nI 0)).1 i := fun i h1 => by rw [mI_ne _ h1, mI_ne _ h1]
  refine RR_mk (M9 := mI M 123 1 (nI 0)) (q2 := fun k p => M.1 138 (55 * k + p)) (h2 := fun j p => M.1 137 (55 * j + p)) (tk2 := M.1 139) (ct2 := ct) (lt2 := lt) (s2 := s) (len2 := 0) hz (gv_k hgv hz.2.2.1.2 (fun i hi => c9 i (by simp only [gH] at hi; omega))) (by rw [c9 117 (by decide)]; exact hpm) (hks.k (fun i _ _ => c9 i (by omega)) (fun k _ => by rw [c9 119 (by decide)]) (fun _ _ => rfl) (fun _ _ _ _ => rfl)) (hkh.k (fun i _ _ => c9 i (by omega)) (c9 120 (by decide)) (c9 122 (by decide)) (fun _ _ _ _ => rfl)) ⟨by rw [mI_eq, upd_e], by decide, fun k hk => absurd hk (Nat.not_lt_zero k)⟩ (fun i hi => b i (by omega)) (fun j hj => by rw [b 136 (by decide), c9 136 (by decide)]) (fun j p _ _ => by rw [b 137 (by decide), c9 137 (by decide)]) (fun k p _ _ => by rw [b 138 (by decide), c9 138 (by decide)]) (fun k _ => by rw [b 139 (by decide), c9 139 (by decide)]) ?_ ?_ (fun k hk => absurd hk (Nat.not_lt_zero k))
  · rw [mI_eq, upd_n _ _ (by decide), mI_eq, upd_n _ _ (by decide), c9 135 (by decide)]; exact hms
  · rw [mI_eq, upd_e]
/-- a snapshot taken -/
theorem S_tk (hX : RX M s lt len ct n d) {q : Nat} (hq : q ≤ 1) {M1 : Mm} (h1 : oG (1 + q) M M1) (h2 : gv M1 (1 + q) (gH (1 + q)) (M.1 136) n d) (h9 : M9 = mI M1 119 q (nI 1)) (e1 : Mu.1 = M9.1) (e2 : Mu.2 145 0 = v) (h3 : M3 = mA (mI (mI Mu 135 7 (nI 0)) 139 q (nI 1)) 138 (va_cpy (Mu.1 136) (Mu.1 138) 0 (55 * q) 55)) : M3.1 135 7 = nI 0 ∧ M3.2 145 0 = v ∧ RR M3 := by
  subst h9; subst h3
  obtain ⟨hz, hgv, hpm, hks, hkh, hkt, hms, hml, htx⟩ := hX
  have c9 : ∀ i, i ≠ 119 → ¬ (13 * (1 + q) ≤ i ∧ i < 13 * (1 + q) + 13) → (mI M1 119 q (nI 1)).1 i = M.1 i := fun i a b => by rw [mI_ne _ a, h1.1 i b]
  have b : ∀ i, i ≠ 135 → i ≠ 138 → i ≠ 139 → (mA (mI (mI Mu 135 7 (nI 0)) 139 q (nI 1)) 138 (va_cpy (Mu.1 136) (Mu.1 138) 0 (55 * q) 55)).1 i = (mI M1 119 q (nI 1)).1 i := fun i a b c => by rw [mA_ne _ b, mI_ne _ c, mI_ne _ a, e1]
  have hgn : gv (mI M1 119 q (nI 1)) 0 (gH 0) (M.1 136) n d := gv_k hgv hz.2.2.1.2 (fun i hi => c9 i (by simp only [gH] at hi; omega) (by simp only [gH] at hi; omega))
  have hgq : gv (mI M1 119 q (nI 1)) (1 + q) (gH (1 + q)) (M.1 136) n d := gv_k h2 hz.2.2.1.2 (fun i hi => mI_ne _ (by simp only [gH] at hi; omega))
  refine ⟨by rw [mA_ne _ (by decide), mI_ne _ (by decide), mI_eq, upd_e], e2, ?_⟩
  have hks9 : KS (mI M1 119 q (nI 1)) (fun k p => if k = q then M.1 136 p else M.1 138 (55 * k + p)) (upd (M.1 139) q (nI 1)) := fun k hk => by
    by_cases w : k = q
    · subst w
      rw [mI_eq, upd_e, upd_e]
      exact ⟨rfl, Or.inr ⟨rfl, n, d, gz_cg hz (fun j _ => if_pos rfl), gv_cg hgq hz.2.2.1.2 (fun j _ => if_pos rfl)⟩⟩
    · have h5 := hks k hk
      rw [mI_eq, upd_n _ _ w, upd_n _ _ w, h1.1 119 (by omega)]
      exact ⟨h5.1, h5.2.imp (fun w => w) (fun t => ⟨t.1, t.2.k (fun i hi => c9 i (by omega) (by omega)) (fun j _ => if_neg w)⟩)⟩
  refine RR_mk (M9 := mI M1 119 q (nI 1)) (h2 := fun j p => M.1 137 (55 * j + p)) (ct2 := ct) (lt2 := lt) (s2 := s) (len2 := len) hz hgn (by rw [c9 117 (by decide) (by omega)]; exact hpm) hks9 (hkh.k (fun i _ _ => c9 i (by omega) (by omega)) (c9 120 (by decide) (by omega)) (c9 122 (by decide) (by omega)) (fun _ _ _ _ => rfl)) (hkt.k (c9 123 (by decide) (by omega)) (c9 124 (by decide) (by omega))) (fun i hi => b i (by omega) (by omega) (by omega)) (fun j hj => by rw [b 136 (by decide) (by decide) (by decide), c9 136 (by decide) (by omega)]) (fun j p _ _ => by rw [b 137 (by decide) (by decide) (by decide), c9 137 (by decide) (by omega)]) (fun k p hk hp => ?_) (fun k _ => ?_) ?_ ?_ (fun k hk => by rw [b 140 (by decide) (by decide) (by decide), c9 140 (by decide) (by omega)]; exact htx k hk)
  · rw [mA_eq, e1, c9 136 (by decide) (by omega), c9 138 (by decide) (by omega)]
    unfold va_cpy
    by_cases w : k = q
    · subst w; rw [if_pos (by omega), if_pos rfl, show 0 + (55 * k + p - 55 * k) = p by omega]
    · rw [if_neg (by omega), if_neg w]
  · rw [mA_ne _ (by decide), mI_eq, mI_ne _ (by decide), e1, c9 139 (by decide) (by omega)]
  · rw [mA_ne _ (by decide), mI_ne _ (by decide), mI_eq, upd_n _ _ (by decide), e1, c9 135 (by decide) (by omega)]; exact hms
  · rw [mA_ne _ (by decide), mI_ne _ (by decide), mI_eq, upd_n _ _ (by decide), e1, c9 135 (by decide) (by omega)]; exact hml
theorem rg_lt {lt s : Nat} (hlt : lt < 6) (hs1 : 1 ≤ s) (hs : s ≤ 6) : rg lt s (s - 1) = lt := by unfold rg; omega
theorem rg_pv {lt s j : Nat} (hlt : lt < 6) (hs1 : 1 ≤ s) (hs : s ≤ 6) (hj : j < s - 1) : rg (pv6 lt) (s - 1) j = rg lt s j := by
  unfold rg pv6
  by_cases q : lt = 0
  · rw [if_pos q]; omega
  · rw [if_neg q]; omega
/-- a state restored -/
theorem S_un (hX : RX M s lt len ct n d) (hs1 : 1 ≤ s) {M1 : Mm} {n2 d2 : Nat} (hz2 : gz (fun p => M.1 137 (55 * (s - 1) + p)) n2 d2) (h1 : oG 0 M M1) (h2 : gv M1 0 (gH 0) (fun p => M.1 137 (55 * (s - 1) + p)) n2 d2) (h9 : M9 = mI (mI (mI M1 117 9 (M1.1 122 lt)) 120 2 (nI (pv6 lt))) 120 3 (nI (s - 1))) (e1 : Mu.1 = M9.1) (e2 : Mu.2 145 0 = v) (h3 : M3 = mA (mI (mI Mu 135 7 (nI 0)) 135 1 (nI (s - 1))) 136 (ovR (Mu.1 136) (Mu.1 137) (55 * (s - 1)) 55)) : M3.1 135 7 = nI 0 ∧ M3.2 145 0 = v ∧ RR M3 := by
  subst h9; subst h3
  obtain ⟨hz, hgv, hpm, hks, hkh, hkt, hms, hml, htx⟩ := hX
  obtain ⟨k1, k2, k3, k4, k5⟩ := hkh
  have c9 : ∀ i, 13 ≤ i → i ≠ 117 → i ≠ 120 → (mI (mI (mI M1 117 9 (M1.1 122 lt)) 120 2 (nI (pv6 lt))) 120 3 (nI (s - 1))).1 i = M.1 i := fun i a b c => by rw [mI_ne _ c, mI_ne _ c, mI_ne _ b, h1.1 i (by omega)]
  have b : ∀ i, i ≠ 135 → i ≠ 136 → (mA (mI (mI Mu 135 7 (nI 0)) 135 1 (nI (s - 1))) 136 (ovR (Mu.1 136) (Mu.1 137) (55 * (s - 1)) 55)).1 i = (mI (mI (mI M1 117 9 (M1.1 122 lt)) 120 2 (nI (pv6 lt))) 120 3 (nI (s - 1))).1 i := fun i a b => by rw [mA_ne _ b, mI_ne _ a, mI_ne _ a, e1]
  have hp6 : pv6 lt < 6 := by unfold pv6; split <;> omega
  have h5 := k5 (s - 1) (by omega)
  rw [rg_lt k2 hs1 k4] at h5
  refine ⟨by rw [mA_ne _ (by decide), mI_eq, upd_n _ _ (by decide), mI_eq, upd_e], e2, ?_⟩
  refine RR_mk (M9 := mI (mI (mI M1 117 9 (M1.1 122 lt)) 120 2 (nI (pv6 lt))) 120 3 (nI (s - 1))) (q2 := fun k p => M.1 138 (55 * k + p)) (h2 := fun j p => M.1 137 (55 * j + p)) (tk2 := M.1 139) (ct2 := ct) (lt2 := pv6 lt) (s2 := s - 1) (len2 := len) hz2 (gv_k h2 hz2.2.2.1.2 (fun i hi => by rw [mI_ne _ (by simp only [gH] at hi; omega), mI_ne _ (by simp only [gH] at hi; omega), mI_ne _ (by simp only [gH] at hi; omega)])) ?_ (hks.k (fun i _ _ => c9 i (by omega) (by omega) (by omega)) (fun k _ => by rw [c9 119 (by decide) (by decide) (by decide)]) (fun _ _ => rfl) (fun _ _ _ _ => rfl)) ⟨?_, hp6, by rw [mI_eq, upd_e], by omega, fun j hj => ?_⟩ (hkt.k (c9 123 (by decide) (by decide) (by decide)) (c9 124 (by decide) (by decide) (by decide))) (fun i hi => b i (by omega) (by omega)) (fun j hj => ?_) (fun j p _ _ => by rw [b 137 (by decide) (by decide), c9 137 (by decide) (by decide) (by decide)]) (fun k p _ _ => by rw [b 138 (by decide) (by decide), c9 138 (by decide) (by decide) (by decide)]) (fun k _ => by rw [b 139 (by decide) (by decide), c9 139 (by decide) (by decide) (by decide)]) ?_ ?_ (fun k hk => by rw [b 140 (by decide) (by decide), c9 140 (by decide) (by decide) (by decide)]; exact htx k hk)
  · rw [mI_ne _ (by decide), mI_ne _ (by decide), mI_eq, upd_e, h1.1 122 (by omega)]; exact h5.2
  · rw [mI_eq, upd_n _ _ (by decide), mI_eq, upd_e]
  · have h6 := k5 j (by omega)
    rw [rg_pv k2 hs1 k4 hj, c9 122 (by decide) (by decide) (by decide)]
    have : rg lt s j < 6 := Nat.mod_lt _ (by decide)
    exact ⟨h6.1.k (fun i hi => c9 i (by omega) (by omega) (by omega)) (fun _ _ => rfl), h6.2⟩
  · rw [mA_eq, e1, c9 137 (by decide) (by decide) (by decide)]; unfold ovR; rw [if_pos hj]
  · rw [mA_ne _ (by decide), mI_eq, upd_e]
  · rw [mA_ne _ (by decide), mI_eq, upd_n _ _ (by decide), mI_eq, upd_n _ _ (by decide), e1, c9 135 (by decide) (by decide) (by decide)]; exact hml
end SF
