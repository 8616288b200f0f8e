/-! ===== pure: colors in range, texts alike, the relation kept (by hand) ===== -/
theorem fsm_some {α : Type} {g : Nat → Option α} {x : α} : ∀ {r a : Nat}, fsm g r a = some x → ∃ j, a ≤ j ∧ j < a + r ∧ g j = some x
  | 0, a, h => by unfold fsm at h; cases h
  | r + 1, a, h => by
    unfold fsm at h
    cases q : g a with
    | some w => rw [q] at h; exact ⟨a, Nat.le_refl _, by omega, by rw [q]; exact h⟩
    | none =>
      rw [q] at h
      obtain ⟨j, h1, h2, h3⟩ := fsm_some (r := r) h
      exact ⟨j, by omega, by omega, h3⟩
theorem tr_lt {z : Nat → Int32} {K : Nat} : ∀ {m v : Nat} {c x : Nat → Int32}, tryC z K m v c = some x → (∀ j, j < v → ∃ a, a < K ∧ c j = nI a) → ∀ j, j < v + m → ∃ a, a < K ∧ x j = nI a
  | 0, v, c, x, h, hc, j, hj => by
    unfold tryC at h
    cases h
    exact hc j (by omega)
  | m + 1, v, c, x, h, hc, j, hj => by
    unfold tryC at h
    obtain ⟨a, -, ha, h3⟩ := fsm_some h
    by_cases q : okS z c v a v = true
    · rw [if_pos q] at h3
      refine tr_lt (m := m) h3 (fun i hi => ?_) j (by omega)
      by_cases e : i = v
      · subst e; rw [upd_e]; exact ⟨a, by omega, rfl⟩
      · rw [upd_n _ _ e]; exact hc i (by omega)
    · rw [if_neg q] at h3; cases h3
theorem cr_lt {z : Nat → Int32} {n : Nat} (hn : n ≤ 8) (hn1 : 1 ≤ n) : ∀ j, j < n → ∃ a, a < cnK z n ∧ crs z n j = nI a := fun j hj => by
  have h := fi_yes (co_ex z hn hn1)
  unfold crs cnK
  cases q : cfC z n (fi (fun k => (cfC z n k).isSome) n) with
  | none => rw [q] at h; cases h
  | some x => exact tr_lt (m := n) (v := 0) q (fun i hi => absurd hi (Nat.not_lt_zero i)) j (by omega)
/-- labels by colors -/
theorem gq_lc {z : Nat → Int32} {n d : Nat} {e : Nat → Nat → Bool} (h : gq z n d e) (hcd : cnK z n ≤ d) : gq (rsK (lcT z (crs z n) (4 * n)) (lcH (cnK z n)) 4) n d e := by
  refine gq_lh h (fun j hj => ?_) (fun v p hv hp => ?_) (fun p hp => ?_)
  · unfold rsK lcT; rw [if_neg (by omega), if_neg (by omega)]
  · have hn := h.2.2.1.2
    have e1 : rsK (lcT z (crs z n) (4 * n)) (lcH (cnK z n)) 4 (18 + 4 * v + p) = if nI p = crs z n v then nI 1 else nI 0 := by
      unfold rsK lcT; rw [if_neg (by omega), if_pos (by omega), show (18 + 4 * v + p - 18) % 4 = p by omega, show (18 + 4 * v + p - 18) / 4 = v by omega]
    rw [e1]
    obtain ⟨a, ha, ea⟩ := cr_lt h.2.2.1.2 h.2.2.1.1 v hv
    rw [ea]
    by_cases q : nI p = nI a
    · rw [if_pos q]
      have hd := h.2.2.2.1.2
      exact ⟨ok9_1, fun w => absurd ((nI_eq (by omega) (by omega)).mp q) (by omega)⟩
    · rw [if_neg q]; exact ⟨ok9_0, fun _ => rfl⟩
  · have e1 : rsK (lcT z (crs z n) (4 * n)) (lcH (cnK z n)) 4 (50 + p) = lcH (cnK z n) p := by
      unfold rsK; rw [if_pos (by omega), show 50 + p - 50 = p by omega]
    rw [e1]; unfold lcH
    by_cases q : p < cnK z n
    · rw [if_pos q]; exact ⟨ok9_1, fun w => absurd w (by omega)⟩
    · rw [if_neg q]; exact ⟨ok9_0, fun _ => rfl⟩
/-- another handle -/
theorem gq_hn {z g : Nat → Int32} {n d : Nat} {e : Nat → Nat → Bool} (h : gq z n d e) (hg : ∀ p, p < 4 → ok9 (g p) ∧ (d ≤ p → g p = nI 0)) : gq (rsK z g 4) n d e := by
  have hn := h.2.2.1.2
  refine gq_lh h (fun j hj => ?_) (fun v p hv hp => ?_) (fun p hp => ?_)
  · unfold rsK; rw [if_neg (by omega)]
  · have e1 : rsK z g 4 (18 + 4 * v + p) = z (18 + 4 * v + p) := by unfold rsK; rw [if_neg (by omega)]
    rw [e1]; exact h.2.2.2.2.2.2.2.1 v p hv hp
  · have e1 : rsK z g 4 (50 + p) = g p := by unfold rsK; rw [if_pos (by omega), show 50 + p - 50 = p by omega]
    rw [e1]; exact hg p hp
theorem bs_ok {z : Nat → Int32} {n d b size t : Nat} {e : Nat → Nat → Bool} (h : gq z n d e) (hs : size ≤ 2) (hb : 2 * size + 1 = b) : ∀ p, p < 4 → ok9 (bsD z d b size t p) ∧ (d ≤ p → bsD z d b size t p = nI 0) := fun p hp => by
  unfold bsD
  split
  · exact ⟨ok9_0, fun _ => rfl⟩
  · refine ⟨hn_vb h.2.2.2.1.2 hs hb (fun p hp => (h.2.2.2.2.2.2.2.2 p hp).1) p hp, fun q => ?_⟩
    unfold hnR; rw [if_neg (by omega)]; exact (h.2.2.2.2.2.2.2.2 p hp).2 q
-- texts
theorem cs_go {t : Nat → Int32} {ct : Nat → Nat} {n k : Nat} (hn1 : 1 ≤ n) (hn : n ≤ 8) (h1 : t k = nI (ct k)) (h2 : 33 ≤ ct k ∧ ct k ≤ 126) (h3 : k % 3 = 1 → t (k - 1) = nI (ct (k - 1)) ∧ 33 ≤ ct (k - 1) ∧ ct (k - 1) ≤ 126) : csz t n k = goN ct n k := by
  have T : ∀ a b : Nat, a < 2 ^ 20 → b < 2 ^ 20 → (nI a - nI b).toInt = (a : Int) - b := fun a b ha hb => pk_sub_toInt (by omega) (by omega)
  unfold csz goN
  by_cases q0 : k % 3 = 0
  · simp only [if_pos q0]
    rw [Bool.eq_iff_iff, wit_1, decide_eq_true_iff, h1, Int32.not_lt, Int32.not_lt, Int32.le_iff_toInt_le, Int32.le_iff_toInt_le, T _ _ (by omega) (by omega), T _ _ (by omega) (by omega), nI_toInt (by omega)]
    omega
  · by_cases q1 : k % 3 = 1
    · simp only [if_neg q0, if_pos q1]
      obtain ⟨a1, a2⟩ := h3 q1
      have hs : ((nI (ct (k - 1)) - nI 48) + nI 1).toInt = (ct (k - 1) : Int) - 47 := by
        have e : (nI (ct (k - 1)) - nI 48) + nI 1 = nI (ct (k - 1)) - nI 47 := by
          apply Int32.toBitVec_inj.mp
          simp only [Int32.toBitVec_add, Int32.toBitVec_sub]
          show (nI (ct (k - 1))).toBitVec - 48#32 + 1#32 = (nI (ct (k - 1))).toBitVec - 47#32
          generalize (nI (ct (k - 1))).toBitVec = w
          apply BitVec.eq_of_toNat_eq
          simp only [BitVec.toNat_add, BitVec.toNat_sub, BitVec.toNat_ofNat]
          omega
        rw [e, T _ _ (by omega) (by omega)]; omega
      rw [Bool.eq_iff_iff, wit_1, decide_eq_true_iff, h1, a1, Int32.not_lt, Int32.not_lt, Int32.le_iff_toInt_le, Int32.le_iff_toInt_le, hs, T _ _ (by omega) (by omega), T _ _ (by omega) (by omega)]
      omega
    · simp only [if_neg q0, if_neg q1]
      rw [h1]
      rw [Bool.eq_iff_iff, decide_eq_true_iff, decide_eq_true_iff, nI_eq (by omega) (by omega)]
theorem rut_fi {t : Nat → Int32} {ct : Nat → Nat} {n len : Nat} (hn1 : 1 ≤ n) (hn : n ≤ 8) (h : ∀ k, k < len → t k = nI (ct k) ∧ 33 ≤ ct k ∧ ct k ≤ 126) : rut t n len = fi (fun k => !goN ct n k) len := by
  unfold rut
  apply fi_c
  intro k hk
  rw [cs_go hn1 hn (h k hk).1 (h k hk).2 (fun q => h (k - 1) (by omega))]
-- the relation
def RX (M : Mm) (s lt len : Nat) (ct : Nat → Nat) (n d : Nat) : Prop := gz (M.1 136) n d ∧ gv M 0 (gH 0) (M.1 136) n d ∧ M.1 117 9 = M.1 136 54 ∧ KS M (fun k p => M.1 138 (55 * k + p)) (M.1 139) ∧ KH M (fun j p => M.1 137 (55 * j + p)) s lt ∧ KT M ct len ∧ M.1 135 1 = nI s ∧ M.1 135 5 = nI len ∧ ∀ k, k < len → M.1 140 k = nI (ct k)
theorem RR_X {M : Mm} (h : RR M) : ∃ s lt len ct n d, RX M s lt len ct n d := by
  obtain ⟨s, lt, len, ct, ⟨n, d, h1, h2⟩, h3, h4, h5, h6, h7, h8, h9⟩ := h
  exact ⟨s, lt, len, ct, n, d, h1, h2, h3, h4, h5, h6, h7, h8, h9⟩
theorem RX_R {M : Mm} {s lt len n d : Nat} {ct : Nat → Nat} (h : RX M s lt len ct n d) : RR M := by
  obtain ⟨h1, h2, h3, h4, h5, h6, h7, h8, h9⟩ := h
  exact ⟨s, lt, len, ct, ⟨n, d, h1, h2⟩, h3, h4, h5, h6, h7, h8, h9⟩
theorem RR_mk {M9 M3 : Mm} {z2 : Nat → Int32} {n2 d2 s2 lt2 len2 : Nat} {ct2 : Nat → Nat} {q2 h2 : Nat → Nat → Int32} {tk2 : Nat → Int32} (hz2 : gz z2 n2 d2) (hv : gv M9 0 (gH 0) z2 n2 d2) (hp : M9.1 117 9 = z2 54) (hS : KS M9 q2 tk2) (hH : KH M9 h2 s2 lt2) (hT : KT M9 ct2 len2)
    (h135 : ∀ i, i < 135 → M3.1 i = M9.1 i) (h136 : ∀ j, j < 55 → M3.1 136 j = z2 j) (h137 : ∀ j p, j < s2 → p < 55 → M3.1 137 (55 * j + p) = h2 j p) (h138 : ∀ k p, k < 2 → p < 54 → M3.1 138 (55 * k + p) = q2 k p) (h139 : ∀ k, k < 2 → M3.1 139 k = tk2 k) (hs : M3.1 135 1 = nI s2) (hl : M3.1 135 5 = nI len2) (h140 : ∀ k, k < len2 → M3.1 140 k = nI (ct2 k)) : RR M3 := by
  refine ⟨s2, lt2, len2, ct2, ⟨n2, d2, gz_cg hz2 (fun j hj => h136 j (by omega)), gv_cg (gv_k hv hz2.2.2.1.2 (fun i hi => h135 i (by simp only [gH] at hi; omega))) hz2.2.2.1.2 (fun j hj => h136 j (by omega))⟩, ?_, hS.k (fun i h1 h2 => h135 i (by omega)) (fun k hk => by rw [h135 119 (by decide)]) h139 (fun k j hk hj => h138 k j hk hj), hH.k (fun i h1 h2 => h135 i (by omega)) (h135 120 (by decide)) (h135 122 (by decide)) (fun k j hk hj => h137 k j hk hj), hT.k (h135 123 (by decide)) (h135 124 (by decide)), hs, hl, h140⟩
  rw [h135 117 (by decide), h136 54 (by decide)]; exact hp
/-- what the reference leaves that has saved -/
def MS (Mu M3 : Mm) (s : Nat) (g : Nat → Int32) (l5 : Int32) : Prop := (∀ i, i < 135 → M3.1 i = Mu.1 i) ∧ (∀ j, j < 55 → M3.1 136 j = g j) ∧ M3.1 137 = svH (Mu.1 137) (Mu.1 136) s ∧ M3.1 138 = Mu.1 138 ∧ M3.1 139 = Mu.1 139 ∧ M3.1 140 = Mu.1 140 ∧ M3.1 135 1 = nI (svN s + 1) ∧ M3.1 135 5 = l5 ∧ M3.1 135 7 = nI 0 ∧ M3.2 145 = Mu.2 145
theorem ms_0 (Mu : Mm) (s : Nat) : MS Mu (saveM (mI Mu 135 7 (nI 0)) s) s (Mu.1 136) (Mu.1 135 5) := by
  unfold saveM
  refine ⟨fun i hi => by rw [mA_ne _ (by omega), mI_ne _ (by omega), mI_ne _ (by omega)], fun j hj => by rw [mA_ne _ (by decide), mI_ne _ (by decide), mI_ne _ (by decide)], ?_, ?_, ?_, ?_, ?_, ?_, ?_, rfl⟩
  · rw [mA_eq, mI_ne _ (by decide), mI_ne _ (by decide)]
  · rw [mA_ne _ (by decide), mI_ne _ (by decide), mI_ne _ (by decide)]
  · rw [mA_ne _ (by decide), mI_ne _ (by decide), mI_ne _ (by decide)]
  · rw [mA_ne _ (by decide), mI_ne _ (by decide), mI_ne _ (by decide)]
  · rw [mA_ne _ (by decide), mI_eq, upd_e]
  · rw [mA_ne _ (by decide), mI_eq, upd_n _ _ (by decide), mI_eq, upd_n _ _ (by decide)]
  · rw [mA_ne _ (by decide), mI_eq, upd_n _ _ (by decide), mI_eq, upd_e]
theorem MS.A {Mu M3 : Mm} {s : Nat} {g f : Nat → Int32} {l5 : Int32} (h : MS Mu M3 s g l5) : MS Mu (mA M3 136 f) s f l5 := by
  obtain ⟨h1, h2, h3, h4, h5, h6, h7, h8, h9, h10⟩ := h
  exact ⟨fun i hi => by rw [mA_ne _ (by omega)]; exact h1 i hi, fun j hj => by rw [mA_eq], by rw [mA_ne _ (by decide)]; exact h3, by rw [mA_ne _ (by decide)]; exact h4, by rw [mA_ne _ (by decide)]; exact h5, by rw [mA_ne _ (by decide)]; exact h6, by rw [mA_ne _ (by decide)]; exact h7, by rw [mA_ne _ (by decide)]; exact h8, by rw [mA_ne _ (by decide)]; exact h9, h10⟩
theorem MS.I {Mu M3 : Mm} {s k : Nat} {x : Int32} {g : Nat → Int32} {l5 : Int32} (h : MS Mu M3 s g l5) : MS Mu (mI M3 136 k x) s (upd g k x) l5 := by
  obtain ⟨h1, h2, h3, h4, h5, h6, h7, h8, h9, h10⟩ := h
  refine ⟨fun i hi => by rw [mI_ne _ (by omega)]; exact h1 i hi, fun j hj => ?_, by rw [mI_ne _ (by decide)]; exact h3, by rw [mI_ne _ (by decide)]; exact h4, by rw [mI_ne _ (by decide)]; exact h5, by rw [mI_ne _ (by decide)]; exact h6, by rw [mI_ne _ (by decide)]; exact h7, by rw [mI_ne _ (by decide)]; exact h8, by rw [mI_ne _ (by decide)]; exact h9, h10⟩
  rw [mI_eq]; unfold upd; rw [h2 j hj]
theorem MS.L {Mu M3 : Mm} {s : Nat} {x : Int32} {g : Nat → Int32} {l5 : Int32} (h : MS Mu M3 s g l5) : MS Mu (mI M3 135 5 x) s g x := by
  obtain ⟨h1, h2, h3, h4, h5, h6, h7, h8, h9, h10⟩ := h
  exact ⟨fun i hi => by rw [mI_ne _ (by omega)]; exact h1 i hi, fun j hj => by rw [mI_ne _ (by decide)]; exact h2 j hj, by rw [mI_ne _ (by decide)]; exact h3, by rw [mI_ne _ (by decide)]; exact h4, by rw [mI_ne _ (by decide)]; exact h5, by rw [mI_ne _ (by decide)]; exact h6, by rw [mI_eq, upd_n _ _ (by decide)]; exact h7, by rw [mI_eq, upd_e], by rw [mI_eq, upd_n _ _ (by decide)]; exact h9, h10⟩
theorem MS.S {Mu M3 M4 : Mm} {s : Nat} {g : Nat → Int32} {l5 : Int32} (h : MS Mu M3 s g l5) (hs : SC M3 M4) : MS Mu M4 s g l5 := by
  obtain ⟨h1, h2, h3, h4, h5, h6, h7, h8, h9, h10⟩ := h
  obtain ⟨a1, a2, a3, -⟩ := hs
  have b : ∀ i, i < 135 ∨ (136 ≤ i ∧ i ≤ 140) → M4.1 i = M3.1 i := fun i hi => a1 i (by omega) (by omega) (by omega) (by omega) (by omega)
  exact ⟨fun i hi => by rw [b i (by omega)]; exact h1 i hi, fun j hj => by rw [b 136 (by omega)]; exact h2 j hj, by rw [b 137 (by omega)]; exact h3, by rw [b 138 (by omega)]; exact h4, by rw [b 139 (by omega)]; exact h5, by rw [b 140 (by omega)]; exact h6, by rw [a2 1 (by decide)]; exact h7, by rw [a2 5 (by decide)]; exact h8, by rw [a2 7 (by decide)]; exact h9, by rw [a3 145 (by decide)]; exact h10⟩
/-- the saved rows -/
theorem sv_row {h z : Nat → Int32} {s j p : Nat} (hs : s ≤ 6) (hj : j < svN s + 1) (hp : p < 55) : svH h z s (55 * j + p) = shH (fun j p => h (55 * j + p)) z s j p := by
  unfold svH shH va_cpy
  by_cases e : j = svN s
  · rw [if_pos (by omega), if_pos e]; congr 1; omega
  · rw [if_neg (by omega), if_neg e]
    unfold svN at hj e
    by_cases q : s = 6
    · rw [if_pos q, if_pos q]
      rw [if_pos q] at hj e
      unfold shf; rw [if_pos (by omega)]; congr 1; omega
    · rw [if_neg q, if_neg q]
/-- a call that has saved, whatever it changed then -/
theorem S_sv {M Ms M1 M9 Mu M3 : Mm} {s lt len n d : Nat} {ct : Nat → Nat} (hX : RX M s lt len ct n d) (hMs : ∀ i, ¬ (125 ≤ i ∧ i ≤ 134) → Ms.1 i = M.1 i) (hsv : svP Ms M1 (M.1 136) n d lt s (Ms.1 117 9)) (h9 : ∀ i, 13 ≤ i → i ≠ 117 → i ≠ 123 → M9.1 i = M1.1 i) {z2 : Nat → Int32} {n2 d2 len2 : Nat} (hz2 : gz z2 n2 d2) (hv : gv M9 0 (gH 0) z2 n2 d2) (hp : M9.1 117 9 = z2 54) (hl2 : M9.1 123 1 = nI len2) (hle : len2 ≤ len) (e1 : Mu.1 = M9.1) {v : Int64} (e2 : Mu.2 145 0 = v) {g : Nat → Int32} (hMS : MS Mu M3 s g (nI len2)) (hg : ∀ j, j < 55 → g j = z2 j) : M3.1 135 7 = nI 0 ∧ M3.2 145 0 = v ∧ RR M3 := by
  obtain ⟨hz, hgv, hpm, hks, hkh, hkt, hms, hml, htx⟩ := hX
  obtain ⟨h1, h2, h3, h4, h5, h6, h7, h8, h99, h10⟩ := hMS
  have hlt := hkh.2.1
  have hs6 := hkh.2.2.2.1
  have hx6 := nx6_lt hlt
  have kp : ∀ i, 135 ≤ i → M9.1 i = M.1 i := fun i hi => by
    rw [h9 i (by omega) (by omega) (by omega), sv_id hsv hlt (by omega), hMs i (by omega)]
  refine ⟨h99, by rw [h10]; exact e2, ?_⟩
  have hkh1 : KH Ms (fun j p => M.1 137 (55 * j + p)) s lt := hkh.k (fun i a b => hMs i (by omega)) (hMs 120 (by decide)) (hMs 122 (by decide)) (fun _ _ _ _ => rfl)
  have hkh2 := hkh1.save hz (by rw [hMs 117 (by decide)]; exact hpm) hsv
  refine RR_mk (q2 := fun k p => M.1 138 (55 * k + p)) (h2 := shH (fun j p => M.1 137 (55 * j + p)) (M.1 136) s) (tk2 := M.1 139) (ct2 := ct) (lt2 := nx6 lt) (s2 := mn6 s) hz2 hv hp (hks.k (fun i a b => ?_) (fun k hk => ?_) (fun _ _ => rfl) (fun _ _ _ _ => rfl)) (hkh2.k (fun i a b => h9 i (by omega) (by omega) (by omega)) (h9 120 (by decide) (by decide) (by decide)) (h9 122 (by decide) (by decide) (by decide)) (fun _ _ _ _ => rfl)) ⟨hl2, by have := hkt.2.1; omega, fun k hk => ?_⟩ (fun i hi => by rw [h1 i hi, e1]) (fun j hj => by rw [h2 j hj, hg j hj]) (fun j p hj hp => ?_) (fun k p hk hp => by rw [h4, e1, kp 138 (by decide)]) (fun k hk => by rw [h5, e1, kp 139 (by decide)]) (by rw [h7, mn6_sv hs6]) h8 (fun k hk => by rw [h6, e1, kp 140 (by decide)]; exact htx k (by omega))
  · rw [h9 i (by omega) (by omega) (by omega), sv_id hsv hlt (by omega), hMs i (by omega)]
  · rw [h9 119 (by decide) (by decide) (by decide), sv_id hsv hlt (by omega), hMs 119 (by decide)]
  · rw [h9 124 (by decide) (by decide) (by decide), sv_id hsv hlt (by omega), hMs 124 (by decide)]; exact hkt.2.2 k (by omega)
  · rw [h3, e1, kp 137 (by decide), kp 136 (by decide)]; exact sv_row hs6 (by rw [← mn6_sv hs6]; exact hj) hp
/-- what a look of the reference leaves -/
def SQ (M M2 : Mm) : Prop := (∀ i, i ≠ 135 → ¬ (141 ≤ i ∧ i ≤ 144) → M2.1 i = M.1 i) ∧ (∀ k, k ≠ 10 → M2.1 135 k = M.1 135 k) ∧ M2.2 145 = M.2 145
theorem SQ.rf (M : Mm) : SQ M M := ⟨fun _ _ _ => rfl, fun _ _ => rfl, rfl⟩
theorem SQ.S {M M2 : Mm} (h : SC M M2) : SQ M M2 := ⟨fun i h1 h2 => h.1 i h1 (by omega) (by omega) (by omega) (by omega), h.2.1, h.2.2.1 145 (by decide)⟩
theorem SQ.D {M M2 : Mm} (h : SD M M2) : SQ M M2 := ⟨fun i h1 h2 => h.1 i h1 (by omega) (by omega) (by omega) (by omega), h.2.1, h.2.2 145 (by decide)⟩
theorem SQ.A {M : Mm} {i : Nat} {f : Nat → Int32} (hi : 141 ≤ i ∧ i ≤ 144) : SQ M (mA M i f) := ⟨fun j h1 h2 => mA_ne _ (fun e => h2 (by rw [e]; exact hi)), fun k _ => by rw [mA_ne _ (by omega)], rfl⟩
theorem S_lk {M M9 Mu M3 : Mm} {s lt len n d : Nat} {ct : Nat → Nat} (hX : RX M s lt len ct n d) (hk : lkP M M9) (e1 : Mu.1 = M9.1) {v : Int64} (e2 : Mu.2 145 0 = v) {c : Int32} (hS : SQ (mI Mu 135 7 c) M3) : M3.1 135 7 = c ∧ M3.2 145 0 = v ∧ RR M3 := by
  obtain ⟨hz, hgv, hpm, hks, hkh, hkt, hms, hml, htx⟩ := hX
  obtain ⟨a1, a2, a3⟩ := hS
  have b : ∀ i, i ≠ 135 → ¬ (141 ≤ i ∧ i ≤ 144) → M3.1 i = M9.1 i := fun i h1 h2 => by rw [a1 i h1 h2, mI_ne _ h1, e1]
  have c9 : ∀ i, ¬ (125 ≤ i ∧ i ≤ 134) → M9.1 i = M.1 i := fun i hi => (hk i hi).1
  refine ⟨by rw [a2 7 (by decide), mI_eq, upd_e], by rw [a3]; exact e2, ?_⟩
  refine RR_mk (M9 := M9) (q2 := fun k p => M.1 138 (55 * k + p)) (h2 := fun j p => M.1 137 (55 * j + p)) (tk2 := M.1 139) (ct2 := ct) (lt2 := lt) (s2 := s) hz (gv_k hgv hz.2.2.1.2 (fun i hi => c9 i (by simp only [gH] at hi; omega))) (by rw [c9 117 (by decide)]; exact hpm) (hks.k (fun i _ _ => c9 i (by omega)) (fun k _ => by rw [c9 119 (by decide)]) (fun _ _ => rfl) (fun _ _ _ _ => rfl)) (hkh.k (fun i _ _ => c9 i (by omega)) (c9 120 (by decide)) (c9 122 (by decide)) (fun _ _ _ _ => rfl)) (hkt.k (c9 123 (by decide)) (c9 124 (by decide))) (fun i hi => b i (by omega) (by omega)) (fun j hj => by rw [b 136 (by decide) (by decide), c9 136 (by decide)]) (fun j p _ _ => by rw [b 137 (by decide) (by decide), c9 137 (by decide)]) (fun k p _ _ => by rw [b 138 (by decide) (by decide), c9 138 (by decide)]) (fun k _ => by rw [b 139 (by decide) (by decide), c9 139 (by decide)]) ?_ ?_ (fun k hk => by rw [b 140 (by decide) (by decide), c9 140 (by decide)]; exact htx k hk)
  · rw [a2 1 (by decide), mI_eq, upd_n _ _ (by decide), e1, c9 135 (by decide)]; exact hms
  · rw [a2 5 (by decide), mI_eq, upd_n _ _ (by decide), e1, c9 135 (by decide)]; exact hml
theorem lk_rf (M : Mm) : lkP M M := fun _ _ => ⟨rfl, rfl⟩
theorem lk_eq {M M9 : Mm} (h : M9 = M) : lkP M M9 := by rw [h]; exact lk_rf M
theorem lk_fn {z : Nat → Int32} {n : Nat} {M M9 : Mm} (h : fnP z n M M9) : lkP M M9 := fun i hi => ⟨h.1 i (by omega) (by omega), by rw [h.2.1]⟩
