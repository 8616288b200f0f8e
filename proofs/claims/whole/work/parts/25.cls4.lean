/-! ===== the class: products of graphs, labels by colors (written by wip/whole/gen/cls4.py) ===== -/
theorem mu_lt {p q d1 d2 : Nat} (hp : p < d1) (hq : q < d2) : d2 * p + q < d1 * d2 := by
  have h : d2 * (p + 1) ≤ d2 * d1 := Nat.mul_le_mul_left d2 hp
  rw [Nat.mul_succ] at h
  rw [Nat.mul_comm d1 d2]; omega
theorem mu_di {p q d2 : Nat} (hq : q < d2) : (d2 * p + q) / d2 = p ∧ (d2 * p + q) % d2 = q := by
  constructor
  · rw [Nat.add_comm, Nat.add_mul_div_left _ _ (by omega), Nat.div_eq_of_lt hq, Nat.zero_add]
  · rw [Nat.add_comm, Nat.add_mul_mod_self_left, Nat.mod_eq_of_lt hq]
/-- what fillProduct leaves: the product of the rows a and b in i -/
def fpI (i a b d2 t : Nat) (M M3 : Mm) : Prop := o1 i M M3 ∧ ∀ p, M3.1 i p = if p < t then M.1 a (p / d2) * M.1 b (p % d2) else M.1 i p
theorem fp_0 {i a b d2 : Nat} {M : Mm} : fpI i a b d2 0 M M := ⟨o1.rf _ _, fun p => by rw [if_neg (Nat.not_lt_zero p)]⟩
theorem fp_s {i a b d2 p q : Nat} {M M3 : Mm} {x : Int32} (h : fpI i a b d2 (d2 * p + q) M M3) (hq : q < d2) (hx : x = M.1 a p * M.1 b q) : fpI i a b d2 (d2 * p + (q + 1)) M (mI M3 i (d2 * p + q) x) := by
  subst hx
  refine ⟨h.1.I, fun j => ?_⟩
  rw [mI_eq]; unfold upd
  by_cases e : j = d2 * p + q
  · rw [if_pos e, if_pos (by omega), e, (mu_di hq).1, (mu_di hq).2]
  · rw [if_neg e, h.2 j]
    by_cases w : j < d2 * p + q
    · rw [if_pos w, if_pos (by omega)]
    · rw [if_neg w, if_neg (by omega)]
theorem fp_n {i a b d2 p : Nat} {M M3 : Mm} (h : fpI i a b d2 (d2 * p + d2) M M3) : fpI i a b d2 (d2 * (p + 1) + 0) M M3 := by
  rw [Nat.mul_succ, Nat.add_zero]; exact h
/-- the masks of a product -/
theorem pm_s {z y : Nat → Int32} {n2 i j a b : Nat} (hj : j < n2) (hb : b < n2) : pjB z y n2 (n2 * i + j) (n2 * a + b) = (bt (z (10 + i)) a || bt (y (10 + j)) b) := by
  unfold pjB
  rw [(mu_di hj).1, (mu_di hj).2, (mu_di hb).1, (mu_di hb).2]
/-- a graph is becoming a product, of which the first k vertices are made -/
def bpI (M M3 : Mm) (z y : Nat → Int32) (N dd n2 d2 k : Nat) : Prop := oG 0 M M3 ∧ M3.1 (gO 0) 0 = nI N ∧ M3.1 (gO 0) 1 = nI dd ∧ (∀ v, v < k → M3.1 (gN 0) v = pmI z y n2 v N) ∧ (∀ v, v < k → M3.1 (gW 0) v = pwI z y n2 v) ∧ (∀ v p, v < N → p < 4 → M3.1 (gR 0 v) p = if v < k ∧ p < dd then plI z y n2 d2 v p else nI 0) ∧ ∀ p, p < 4 → M3.1 (gH 0) p = nI 0
theorem bp_0 {M M3 : Mm} {z y : Nat → Int32} {N dd n2 d2 : Nat} (h : clP M M3 N dd) (hN : N ≤ 8) (hd : dd ≤ 4) : bpI M M3 z y N dd n2 d2 0 := by
  obtain ⟨g0, g1, g2, -, -, g5, g6⟩ := (⟨h.1, h.2 cl0⟩ : _ ∧ _)
  refine ⟨g0, g1, g2, fun v hv => absurd hv (Nat.not_lt_zero v), fun v hv => absurd hv (Nat.not_lt_zero v), fun v p hv hp => ?_, fun p hp => ?_⟩
  · rw [g5 v p hv hp, if_neg (by omega)]; unfold emR; rw [if_neg (by omega), if_neg (by omega), if_neg (by omega), if_pos (by omega)]
  · rw [g6 p hp]; unfold emR; rw [if_neg (by omega), if_neg (by omega), if_neg (by omega), if_pos (by omega)]
theorem bp_s {M M3 M4 M5 : Mm} {z y : Nat → Int32} {N dd n2 d2 k a b : Nat} {x w : Int32} (h : bpI M M3 z y N dd n2 d2 k) (hk : k < N) (hN : N ≤ 8) (hd : dd ≤ 4) (hx : x = pmI z y n2 k N) (hw : w = pwI z y n2 k) (e4 : M4 = mI (mI M3 (gN 0) k x) (gW 0) k w) (h5 : fpI (gR 0 k) a b d2 dd M4 M5) (hab : ∀ p, p < dd → M4.1 a (p / d2) * M4.1 b (p % d2) = plI z y n2 d2 k p) : bpI M M5 z y N dd n2 d2 (k + 1) := by
  subst hx; subst hw; subst e4
  obtain ⟨g0, g1, g2, g3, g4, g5, g6⟩ := h
  refine ⟨((g0.I (by decide)).I (by decide)).F (by simp only [gR]; omega) h5.1.1 h5.1.2, ?_, ?_, fun v hv => ?_, fun v hv => ?_, fun v p hv hp => ?_, fun p hp => ?_⟩
  · rw [h5.1.1 _ (by simp only [gO, gR]; omega), mI_ne _ (by decide), mI_ne _ (by decide)]; exact g1
  · rw [h5.1.1 _ (by simp only [gO, gR]; omega), mI_ne _ (by decide), mI_ne _ (by decide)]; exact g2
  · rw [h5.1.1 _ (by simp only [gN, gR]; omega), mI_ne _ (by decide), mI_eq]
    by_cases q : v = k
    · rw [q, upd_e]
    · rw [upd_n _ _ q]; exact g3 v (by omega)
  · rw [h5.1.1 _ (by simp only [gW, gR]; omega), mI_eq]
    by_cases q : v = k
    · rw [q, upd_e]
    · rw [upd_n _ _ q, mI_ne _ (by decide)]; exact g4 v (by omega)
  · by_cases q : v = k
    · subst q
      rw [h5.2 p]
      by_cases q2 : p < dd
      · rw [if_pos q2, hab p q2, if_pos (by omega)]
      · rw [if_neg q2, if_neg (by omega), mI_ne _ (by simp only [gR, gW]; omega), mI_ne _ (by simp only [gR, gN]; omega), g5 v p hk hp, if_neg (by omega)]
    · rw [h5.1.1 _ (by simp only [gR]; omega), mI_ne _ (by simp only [gR, gW]; omega), mI_ne _ (by simp only [gR, gN]; omega), g5 v p hv hp]
      by_cases q2 : v < k ∧ p < dd
      · rw [if_pos q2, if_pos (by omega)]
      · rw [if_neg q2, if_neg (by omega)]
  · rw [h5.1.1 _ (by simp only [gH, gR]; omega), mI_ne _ (by decide), mI_ne _ (by decide)]; exact g6 p hp
section MDL
variable {c z y : Nat → Int32} {N dd n2 d2 : Nat}
theorem md_n {v : Nat} (hv : v < N) (hN : N ≤ 8) : mdR c z y N dd n2 d2 (10 + v) = pmI z y n2 v N := by
  unfold mdR mdG
  rw [if_neg (by omega), if_neg (by omega), if_neg (by omega), if_pos (by omega), show 10 + v - 10 = v by omega]
theorem md_w {v : Nat} (hv : v < N) (hN : N ≤ 8) : mdR c z y N dd n2 d2 (2 + v) = pwI z y n2 v := by
  unfold mdR mdG
  rw [if_neg (by omega), if_neg (by omega), if_pos (by omega), show 2 + v - 2 = v by omega]
theorem md_l {v p : Nat} (hv : v < N) (hp : p < 4) (hN : N ≤ 8) : mdR c z y N dd n2 d2 (18 + 4 * v + p) = if p < dd then plI z y n2 d2 v p else nI 0 := by
  unfold mdR mdG
  have q1 : (18 + 4 * v + p - 18) / 4 = v := by omega
  have q2 : (18 + 4 * v + p - 18) % 4 = p := by omega
  rw [q1, q2, if_neg (by omega), if_neg (by omega), if_neg (by omega), if_neg (by omega), if_neg (by omega)]
  by_cases q : p < dd
  · rw [if_pos (by omega), if_pos q]
  · rw [if_neg (by omega), if_neg (by omega), if_neg q]; exact emZ_z _ (by omega)
theorem md_h {p : Nat} (hp : p < 4) (hN : N ≤ 8) (hd : dd ≤ 4) : mdR c z y N dd n2 d2 (50 + p) = if p < dd then phI z y d2 p else nI 0 := by
  unfold mdR mdG
  rw [if_neg (by omega), if_neg (by omega), if_neg (by omega), if_neg (by omega), if_neg (by omega), if_neg (by omega), show 50 + p - 50 = p by omega]
  by_cases q : p < dd
  · rw [if_pos (by omega), if_pos q]
  · rw [if_neg (by omega), if_neg q]; exact emZ_z _ (by omega)
end MDL
theorem bp_e {M M3 M5 : Mm} {z y : Nat → Int32} {N dd n2 d2 a b : Nat} (h : bpI M M3 z y N dd n2 d2 N) (hN : N ≤ 8) (hd : dd ≤ 4) (h5 : fpI (gH 0) a b d2 dd M3 M5) (hab : ∀ p, p < dd → M3.1 a (p / d2) * M3.1 b (p % d2) = phI z y d2 p) (c : Nat → Int32) : oG 0 M M5 ∧ gv M5 0 (gH 0) (mdR c z y N dd n2 d2) N dd := by
  obtain ⟨g0, g1, g2, g3, g4, g5, g6⟩ := h
  refine ⟨g0.F (by decide) h5.1.1 h5.1.2, ?_, ?_, fun v hv => ?_, fun v hv => ?_, fun v p hv hp => ?_, fun p hp => ?_⟩
  · rw [h5.1.1 _ (by decide)]; exact g1
  · rw [h5.1.1 _ (by decide)]; exact g2
  · rw [h5.1.1 _ (by decide), g3 v hv, md_n hv hN]
  · rw [h5.1.1 _ (by decide), g4 v hv, md_w hv hN]
  · rw [h5.1.1 _ (by simp only [gR, gH]; omega), g5 v p hv hp, md_l hv hp hN]
    by_cases q : p < dd
    · rw [if_pos q, if_pos ⟨hv, q⟩]
    · rw [if_neg q, if_neg (fun w => q w.2)]
  · rw [h5.2 p, md_h hp hN hd]
    by_cases q : p < dd
    · rw [if_pos q, if_pos q, hab p q]
    · rw [if_neg q, if_neg q, g6 p hp]
/-- labels by colors: the first t places -/
def lyI (M M3 : Mm) (z c : Nat → Int32) (n d cn t w : Nat) : Prop := oG 0 M M3 ∧ M3.1 (gO 0) 0 = nI n ∧ M3.1 (gO 0) 1 = nI d ∧ (∀ v, v < n → M3.1 (gN 0) v = z (10 + v)) ∧ (∀ v, v < n → M3.1 (gW 0) v = z (2 + v)) ∧ (∀ v p, v < n → p < 4 → (p < t ∨ (p = t ∧ v < w)) → M3.1 (gR 0 v) p = if nI p = c v then nI 1 else nI 0) ∧ ∀ p, p < t → M3.1 (gH 0) p = lcH cn p
theorem ly_s {M M3 : Mm} {z c : Nat → Int32} {n d cn t w : Nat} {x : Int32} (h : lyI M M3 z c n d cn t w) (hw : w < n) (hn : n ≤ 8) (ht : t < 4) (hx : x = if nI t = c w then nI 1 else nI 0) : lyI M (mI M3 (gR 0 w) t x) z c n d cn t (w + 1) := by
  subst hx
  obtain ⟨g0, g1, g2, g3, g4, g5, g6⟩ := h
  refine ⟨g0.I (by simp only [gR]; omega), ?_, ?_, fun v hv => ?_, fun v hv => ?_, fun v p hv hp hq => ?_, fun p hp => ?_⟩
  · rw [mI_ne _ (by simp only [gO, gR]; omega)]; exact g1
  · rw [mI_ne _ (by simp only [gO, gR]; omega)]; exact g2
  · rw [mI_ne _ (by simp only [gN, gR]; omega)]; exact g3 v hv
  · rw [mI_ne _ (by simp only [gW, gR]; omega)]; exact g4 v hv
  · by_cases e : v = w
    · subst e
      rw [mI_eq]
      by_cases e2 : p = t
      · rw [e2, upd_e]
      · rw [upd_n _ _ e2]; exact g5 v p hv hp (by omega)
    · rw [mI_ne _ (by simp only [gR]; omega)]; exact g5 v p hv hp (by omega)
  · rw [mI_ne _ (by simp only [gH, gR]; omega)]; exact g6 p hp
theorem ly_t {M M3 : Mm} {z c : Nat → Int32} {n d cn t : Nat} {x : Int32} (h : lyI M M3 z c n d cn t n) (hn : n ≤ 8) (ht : t < 4) (hx : x = lcH cn t) : lyI M (mI M3 (gH 0) t x) z c n d cn (t + 1) 0 := by
  subst hx
  obtain ⟨g0, g1, g2, g3, g4, g5, g6⟩ := h
  refine ⟨g0.I (by decide), ?_, ?_, fun v hv => ?_, fun v hv => ?_, fun v p hv hp hq => ?_, fun p hp => ?_⟩
  · rw [mI_ne _ (by decide)]; exact g1
  · rw [mI_ne _ (by decide)]; exact g2
  · rw [mI_ne _ (by decide)]; exact g3 v hv
  · rw [mI_ne _ (by decide)]; exact g4 v hv
  · rw [mI_ne _ (by simp only [gH, gR]; omega)]; exact g5 v p hv hp (by omega)
  · rw [mI_eq]
    by_cases e : p = t
    · rw [e, upd_e]
    · rw [upd_n _ _ e]; exact g6 p (by omega)
theorem ly_e {M M3 : Mm} {z c : Nat → Int32} {n d cn : Nat} (h : lyI M M3 z c n d cn 4 0) (hn : n ≤ 8) : oG 0 M M3 ∧ gv M3 0 (gH 0) (rsK (lcT z c (4 * n)) (lcH cn) 4) n d := by
  obtain ⟨g0, g1, g2, g3, g4, g5, g6⟩ := h
  refine ⟨g0, g1, g2, fun v hv => ?_, fun v hv => ?_, fun v p hv hp => ?_, fun p hp => ?_⟩
  · rw [g3 v hv]; unfold rsK lcT; rw [if_neg (by omega), if_neg (by omega)]
  · rw [g4 v hv]; unfold rsK lcT; rw [if_neg (by omega), if_neg (by omega)]
  · rw [g5 v p hv hp (by omega)]
    have e : rsK (lcT z c (4 * n)) (lcH cn) 4 (18 + 4 * v + p) = if nI p = c v then nI 1 else nI 0 := by
      unfold rsK lcT
      rw [if_neg (by omega), if_pos (by omega), show (18 + 4 * v + p - 18) % 4 = p by omega, show (18 + 4 * v + p - 18) / 4 = v by omega]
    exact e.symm
  · rw [g6 p hp]; unfold rsK; rw [if_pos (by omega)]; congr 1; omega
set_option maxRecDepth 100000 in
set_option maxHeartbeats 4000000 in
theorem c_X4_fillProduct (l : Launch) (D : va_G) (cs : Nat → ClassId) (ad : Nat → Nat) (M : Mm) (g a h b i : Nat) (hg9 : g < 9) (hh9 : h < 9) (ha : a < 146) (ea : ∀ x y, wF cs ad a x y = .inl (cs 0, 4, .inl x)) (hb : b < 146) (eb : ∀ x y, wF cs ad b x y = .inl (cs 0, 4, .inl x)) (hi : i < 146) (ei : ∀ x y, wF cs ad i x y = .inl (cs 0, 4, .inl x)) (d1 d2 : Nat) (h1 : M.1 (gO g) 1 = nI d1) (h2 : M.1 (gO h) 1 = nI d2) (hd : d1 * d2 ≤ 4) (hd1 : d1 ≤ 4) (hd2 : d2 ≤ 4) (n1 : i ≠ gO g) (n2 : i ≠ gO h) (n3 : a ≠ i) (n4 : b ≠ i) : ∀ sz : Nat, Met l yX4_fillProduct (.code yX4_fillProduct cX4_fillProduct 7 none :: TT) { frames := 0, cells := 0, slots := 0, locals := 0 } (va_Pc [.ref (ad (gO g)), .ref (ad a), .ref (ad (gO h)), .ref (ad b), .ref (ad i)] (fun U9 => U9.heap.size = sz ∧ wB D cs ad (fA ad sz) M U9)) (va_Qv (fun M2 => fpI i a b d2 (d1 * d2) M M2) (wB D cs ad (fA ad sz)) (fA ad sz)) 0 0 (fA ad sz) := by
  refine st_V (by decide) (Nat.le_of_ble_eq_true rfl) (fun κ C E => ?_)
  refine r_lv (lv2 := [(0, .ref (ad (gO g))), (1, .ref (ad a)), (2, .ref (ad (gO h))), (3, .ref (ad b)), (4, .ref (ad i))]) [0, 1, 2, 3, 4] rfl ?_
  refine r_iconst C (nI 0) dX4_fillProduct_0 (by decide) ?_
  refine r_istore C [(5, .int (nI 0)), (0, .ref (ad (gO g))), (1, .ref (ad a)), (2, .ref (ad (gO h))), (3, .ref (ad b)), (4, .ref (ad i))] dX4_fillProduct_1 (by decide) rfl ?_
  have Lp : ∀ (f k : Nat) (M3 : Mm), d1 + 1 ≤ k + f → k ≤ d1 → fpI i a b d2 (d2 * k + 0) M M3 → VV l D cs ad 7 κ 0 M3 3 [(5, .int (nI k)), (0, .ref (ad (gO g))), (1, .ref (ad a)), (2, .ref (ad (gO h))), (3, .ref (ad b)), (4, .ref (ad i))] [] := by
    intro f
    induction f with
    | zero => intro k M3 hk1 hk2 hI; exact absurd hk1 (by omega)
    | succ f ih =>
      intro k M3 hk1 hk2 hI
      refine r_iload C dX4_fillProduct_3 0 rfl ?_
      refine r_aload_n C dX4_fillProduct_5 rfl 1 rfl ?_
      refine r_get C (Cn := RX4) (T := TX4) (N := 6) (id := (gO g)) (by simp only [gO, gN, gW, gL, gR, gH] <;> omega) inw_X4 (wF_O cs ad (by omega) _ _) rfl 1 (by decide) rfl fl_X4_15 rfl dX4_fillProduct_6 ?_
      refine r_topi (w := nI d1) ((congrFun (hI.1.1 _ n1.symm) 1).trans h1) ?_
      refine r_icmpN_ge C 58 dX4_fillProduct_9 (by decide) (by omega) (by omega) (fun h9 => ?_) (fun h9 => ?_)
      ·
        have hk9 : d1 = k := by omega
        subst hk9
        exact E 0 _ _ _ (Nat.le_of_ble_eq_true rfl) dX4_fillProduct_58 (by rw [Nat.mul_comm d1 d2]; exact hI)
      ·
        refine r_iconst C (nI 0) dX4_fillProduct_12 (by decide) ?_
        refine r_istore C [(6, .int (nI 0)), (5, .int (nI k)), (0, .ref (ad (gO g))), (1, .ref (ad a)), (2, .ref (ad (gO h))), (3, .ref (ad b)), (4, .ref (ad i))] dX4_fillProduct_13 (by decide) rfl ?_
        have Lq : ∀ (f_q q : Nat) (M4 : Mm), d2 + 1 ≤ q + f_q → q ≤ d2 → fpI i a b d2 (d2 * k + q) M M4 → VV l D cs ad 7 κ 0 M4 15 [(6, .int (nI q)), (0, .ref (ad (gO g))), (1, .ref (ad a)), (2, .ref (ad (gO h))), (3, .ref (ad b)), (4, .ref (ad i)), (5, .int (nI k))] [] := by
          intro f_q
          induction f_q with
          | zero => intro q M4 hk1_q hk2_q hI_q; exact absurd hk1_q (by omega)
          | succ f_q ih_q =>
            intro q M4 hk1_q hk2_q hI_q
            refine r_iload C dX4_fillProduct_15 0 rfl ?_
            refine r_aload_n C dX4_fillProduct_17 rfl 3 rfl ?_
            refine r_get C (Cn := RX4) (T := TX4) (N := 6) (id := (gO h)) (by simp only [gO, gN, gW, gL, gR, gH] <;> omega) inw_X4 (wF_O cs ad (by omega) _ _) rfl 1 (by decide) rfl fl_X4_15 rfl dX4_fillProduct_18 ?_
            refine r_topi (w := nI d2) ((congrFun (hI_q.1.1 _ n2.symm) 1).trans h2) ?_
            refine r_icmpN_ge C 52 dX4_fillProduct_21 (by decide) (by omega) (by omega) (fun h21 => ?_) (fun h21 => ?_)
            ·
              have hk9 : d2 = q := by omega
              subst hk9
              refine r_iinc C (nI (k + 1)) [(5, .int (nI (k + 1))), (6, .int (nI d2)), (0, .ref (ad (gO g))), (1, .ref (ad a)), (2, .ref (ad (gO h))), (3, .ref (ad b)), (4, .ref (ad i))] dX4_fillProduct_52 (j := 6) rfl (inc_n k 1) (by decide) rfl ?_
              refine r_goto C 3 dX4_fillProduct_55 (by decide) ?_
              refine r_lv (lv2 := [(5, .int (nI (k + 1))), (0, .ref (ad (gO g))), (1, .ref (ad a)), (2, .ref (ad (gO h))), (3, .ref (ad b)), (4, .ref (ad i))]) [0, 2, 3, 4, 5, 6] rfl ?_
              exact ih (k + 1) _ (by omega) (by omega) (fp_n hI_q)
            ·
              refine r_aload C dX4_fillProduct_24 5 rfl ?_
              refine r_aload_n C dX4_fillProduct_26 rfl 3 rfl ?_
              refine r_get C (Cn := RX4) (T := TX4) (N := 6) (id := (gO h)) (by simp only [gO, gN, gW, gL, gR, gH] <;> omega) inw_X4 (wF_O cs ad (by omega) _ _) rfl 1 (by decide) rfl fl_X4_15 rfl dX4_fillProduct_27 ?_
              refine r_topi (w := nI d2) ((congrFun (hI_q.1.1 _ n2.symm) 1).trans h2) ?_
              refine r_iload C dX4_fillProduct_30 6 rfl ?_
              refine r_imul C dX4_fillProduct_32 ?_
              refine r_topi (pk_mul d2 k) ?_
              refine r_iload C dX4_fillProduct_33 0 rfl ?_
              refine r_iadd C dX4_fillProduct_35 ?_
              refine r_topi (nI_add (d2 * k) q) ?_
              refine r_aload_n C dX4_fillProduct_36 rfl 2 rfl ?_
              refine r_iload C dX4_fillProduct_37 6 rfl ?_
              refine r_iald C (id := a) (n := 4) (a := k) ha (ea _ _) (by omega) (by decide) dX4_fillProduct_39 ?_
              refine r_topi (w := (M.1 a k)) (congrFun (hI_q.1.1 _ n3) _) ?_
              refine r_aload_n C dX4_fillProduct_40 rfl 4 rfl ?_
              refine r_iload C dX4_fillProduct_41 0 rfl ?_
              refine r_iald C (id := b) (n := 4) (a := q) hb (eb _ _) (by omega) (by decide) dX4_fillProduct_43 ?_
              refine r_topi (w := (M.1 b q)) (congrFun (hI_q.1.1 _ n4) _) ?_
              refine r_imul C dX4_fillProduct_44 ?_
              refine r_iast C (id := i) (n := 4) (a := (d2 * k) + q) hi (fun _ => (ei _ _)) (Nat.lt_of_lt_of_le (mu_lt (by omega) (by omega)) hd) (by decide) dX4_fillProduct_45 ?_
              refine r_iinc C (nI (q + 1)) [(6, .int (nI (q + 1))), (0, .ref (ad (gO g))), (1, .ref (ad a)), (2, .ref (ad (gO h))), (3, .ref (ad b)), (4, .ref (ad i)), (5, .int (nI k))] dX4_fillProduct_46 (j := 0) rfl (inc_n q 1) (by decide) rfl ?_
              refine r_goto C 15 dX4_fillProduct_49 (by decide) ?_
              refine r_lv (lv2 := [(6, .int (nI (q + 1))), (0, .ref (ad (gO g))), (1, .ref (ad a)), (2, .ref (ad (gO h))), (3, .ref (ad b)), (4, .ref (ad i)), (5, .int (nI k))]) [0, 1, 2, 3, 4, 5, 6] rfl ?_
              exact ih_q (q + 1) _ (by omega) (by omega) (fp_s hI_q (by omega) rfl)
        refine r_lv (lv2 := [(6, .int (nI 0)), (0, .ref (ad (gO g))), (1, .ref (ad a)), (2, .ref (ad (gO h))), (3, .ref (ad b)), (4, .ref (ad i)), (5, .int (nI k))]) [0, 2, 3, 4, 5, 6, 1] rfl ?_
        exact Lq (d2 + 1) 0 _ (by omega) (by omega) hI
  refine r_lv (lv2 := [(5, .int (nI 0)), (0, .ref (ad (gO g))), (1, .ref (ad a)), (2, .ref (ad (gO h))), (3, .ref (ad b)), (4, .ref (ad i))]) [0, 1, 2, 3, 4, 5] rfl ?_
  exact Lp (d1 + 1) 0 _ (by omega) (by omega) fp_0
theorem pn_y {z y : Nat → Int32} {n2 i j a b : Nat} (hj : j < n2) (hb : b < n2) (h : (bt (z (10 + i)) a || bt (y (10 + j)) b) = true) : pmI z y n2 (n2 * i + j) (n2 * a + (b + 1)) = pmI z y n2 (n2 * i + j) (n2 * a + b) ||| s1 (n2 * a + b) := by
  show pmI z y n2 (n2 * i + j) (n2 * a + b) ||| (if pjB z y n2 (n2 * i + j) (n2 * a + b) = true then s1 (n2 * a + b) else nI 0) = _
  rw [pm_s hj hb, if_pos h]
theorem pn_n {z y : Nat → Int32} {n2 i j a b : Nat} (hj : j < n2) (hb : b < n2) (h : (bt (z (10 + i)) a || bt (y (10 + j)) b) = false) : pmI z y n2 (n2 * i + j) (n2 * a + (b + 1)) = pmI z y n2 (n2 * i + j) (n2 * a + b) := by
  show pmI z y n2 (n2 * i + j) (n2 * a + b) ||| (if pjB z y n2 (n2 * i + j) (n2 * a + b) = true then s1 (n2 * a + b) else nI 0) = _
  rw [pm_s hj hb, h, if_neg (by decide)]; exact Int32.or_zero
set_option maxRecDepth 100000 in
set_option maxHeartbeats 4000000 in
theorem c_X4_productNeighbors (l : Launch) (D : va_G) (cs : Nat → ClassId) (ad : Nat → Nat) (M : Mm) (g h : Nat) (hg9 : g < 9) (hh9 : h < 9) (z y : Nat → Int32) (n1 d1 n2 d2 : Nat) (hg : gv M g (gH g) z n1 d1) (hh : gv M h (gH h) y n2 d2) (hn1 : n1 ≤ 8) (hn2 : n2 ≤ 8) (hm1 : gm z n1) (hm2 : gm y n2) (i j : Nat) (hi : i < n1) (hj : j < n2) (N : Nat) (hN : n1 * n2 = N) (hN8 : N ≤ 8) : ∀ sz : Nat, Met l yX4_productNeighbors (.code yX4_productNeighbors cX4_productNeighbors 7 (some .int) :: TT) { frames := 1, cells := 0, slots := 0, locals := 22 } (va_Pc [.ref (ad (gO g)), .int (nI i), .ref (ad (gO h)), .int (nI j)] (fun U9 => U9.heap.size = sz ∧ wB D cs ad (fA ad sz) M U9)) (va_Qi (fun r M2 => r = pmI z y n2 (n2 * i + j) N ∧ M2 = M) (wB D cs ad (fA ad sz)) (fA ad sz)) 0 0 (fA ad sz) := by
  refine st_I (by decide) (Nat.le_of_ble_eq_true rfl) (fun κ C E => ?_)
  refine r_lv (lv2 := [(0, .ref (ad (gO g))), (1, .int (nI i)), (2, .ref (ad (gO h))), (3, .int (nI j))]) [0, 1, 2, 3] rfl ?_
  refine r_iconst C (nI 0) dX4_productNeighbors_0 (by decide) ?_
  refine r_istore C [(4, .int (nI 0)), (0, .ref (ad (gO g))), (1, .int (nI i)), (2, .ref (ad (gO h))), (3, .int (nI j))] dX4_productNeighbors_1 (by decide) rfl ?_
  refine r_iconst C (nI 0) dX4_productNeighbors_3 (by decide) ?_
  refine r_istore C [(5, .int (nI 0)), (4, .int (nI 0)), (0, .ref (ad (gO g))), (1, .int (nI i)), (2, .ref (ad (gO h))), (3, .int (nI j))] dX4_productNeighbors_4 (by decide) rfl ?_
  have Lp : ∀ (f_a a : Nat), n1 + 1 ≤ a + f_a → a ≤ n1 → VV l D cs ad 7 κ 0 M 6 [(5, .int (nI a)), (4, .int (pmI z y n2 (n2 * i + j) (n2 * a + 0))), (0, .ref (ad (gO g))), (1, .int (nI i)), (2, .ref (ad (gO h))), (3, .int (nI j))] [] := by
    intro f_a
    induction f_a with
    | zero => intro a hk1_a hk2_a; exact absurd hk1_a (by omega)
    | succ f_a ih_a =>
      intro a hk1_a hk2_a
      refine r_iload C dX4_productNeighbors_6 0 rfl ?_
      refine r_aload_n C dX4_productNeighbors_8 rfl 2 rfl ?_
      refine r_get C (Cn := RX4) (T := TX4) (N := 6) (id := (gO g)) (by simp only [gO, gN, gW, gL, gR, gH] <;> omega) inw_X4 (wF_O cs ad (by omega) _ _) rfl 0 (by decide) rfl fl_X4_9 rfl dX4_productNeighbors_9 ?_
      refine r_topi (w := nI n1) hg.1 ?_
      refine r_icmpN_ge C 76 dX4_productNeighbors_12 (by decide) (by omega) (by omega) (fun h12 => ?_) (fun h12 => ?_)
      ·
        have hk9 : n1 = a := by omega
        subst hk9
        refine r_iload C dX4_productNeighbors_76 1 rfl ?_
        exact E 0 _ _ _ _ (Nat.le_of_ble_eq_true rfl) dX4_productNeighbors_78 (⟨by rw [← hN, Nat.mul_comm n1 n2, Nat.add_zero], rfl⟩)
      ·
        refine r_iconst C (nI 0) dX4_productNeighbors_15 (by decide) ?_
        refine r_istore C [(6, .int (nI 0)), (5, .int (nI a)), (4, .int (pmI z y n2 (n2 * i + j) (n2 * a + 0))), (0, .ref (ad (gO g))), (1, .int (nI i)), (2, .ref (ad (gO h))), (3, .int (nI j))] dX4_productNeighbors_16 (by decide) rfl ?_
        have Lq : ∀ (f_b b : Nat), n2 + 1 ≤ b + f_b → b ≤ n2 → VV l D cs ad 7 κ 0 M 18 [(6, .int (nI b)), (4, .int (pmI z y n2 (n2 * i + j) (n2 * a + b))), (0, .ref (ad (gO g))), (1, .int (nI i)), (2, .ref (ad (gO h))), (3, .int (nI j)), (5, .int (nI a))] [] := by
          intro f_b
          induction f_b with
          | zero => intro b hk1_b hk2_b; exact absurd hk1_b (by omega)
          | succ f_b ih_b =>
            intro b hk1_b hk2_b
            refine r_iload C dX4_productNeighbors_18 0 rfl ?_
            refine r_aload_n C dX4_productNeighbors_20 rfl 4 rfl ?_
            refine r_get C (Cn := RX4) (T := TX4) (N := 6) (id := (gO h)) (by simp only [gO, gN, gW, gL, gR, gH] <;> omega) inw_X4 (wF_O cs ad (by omega) _ _) rfl 0 (by decide) rfl fl_X4_9 rfl dX4_productNeighbors_21 ?_
            refine r_topi (w := nI n2) hh.1 ?_
            refine r_icmpN_ge C 70 dX4_productNeighbors_24 (by decide) (by omega) (by omega) (fun h24 => ?_) (fun h24 => ?_)
            ·
              have hk9 : n2 = b := by omega
              subst hk9
              refine r_lve (lv2 := [(6, .int (nI n2)), (4, .int (pmI z y n2 (n2 * i + j) (n2 * (a + 1) + 0))), (0, .ref (ad (gO g))), (1, .int (nI i)), (2, .ref (ad (gO h))), (3, .int (nI j)), (5, .int (nI a))]) (by rw [Nat.mul_succ, Nat.add_zero]) ?_
              refine r_iinc C (nI (a + 1)) [(5, .int (nI (a + 1))), (6, .int (nI n2)), (4, .int (pmI z y n2 (n2 * i + j) (n2 * (a + 1) + 0))), (0, .ref (ad (gO g))), (1, .int (nI i)), (2, .ref (ad (gO h))), (3, .int (nI j))] dX4_productNeighbors_70 (j := 6) rfl (inc_n a 1) (by decide) rfl ?_
              refine r_goto C 6 dX4_productNeighbors_73 (by decide) ?_
              refine r_lv (lv2 := [(5, .int (nI (a + 1))), (4, .int (pmI z y n2 (n2 * i + j) (n2 * (a + 1) + 0))), (0, .ref (ad (gO g))), (1, .int (nI i)), (2, .ref (ad (gO h))), (3, .int (nI j))]) [0, 2, 3, 4, 5, 6] rfl ?_
              exact ih_a (a + 1) (by omega) (by omega)
            ·
              refine r_aload_n C dX4_productNeighbors_27 rfl 2 rfl ?_
              refine r_iload_n C dX4_productNeighbors_28 rfl 3 rfl ?_
              refine r_iload C dX4_productNeighbors_29 6 rfl ?_
              refine r_pcallV_i (nA := 2) C (Nat.le_of_ble_eq_true rfl) [.int (nI i), .int (nI a)] (c_X4_areJoined l D cs ad M g  hg9 (gH g) z n1 d1 hg hn1 hm1 i a (by omega) (by omega)) (tt_V ml_X4_63 im_X4_areJoined se_X4_areJoined in_X4 co_X4_areJoined) ⟨rfl, rfl⟩ ⟨rfl, by decide, by decide, by decide⟩ ⟨Nat.le_of_ble_eq_true rfl, Nat.le_of_ble_eq_true rfl⟩ (by simp only [gO, gN, gW, gL, gR, gH] <;> omega) (wF_O cs ad (by omega) _ _) rfl rfl rfl rfl (Nat.le_of_ble_eq_true rfl) dX4_productNeighbors_31 ?_
              refine r_ifB_ne C 47 dX4_productNeighbors_34 (by decide) (fun h34 => ?_) (fun h34 => ?_)
              ·
                refine r_iload C dX4_productNeighbors_47 1 rfl ?_
                refine r_iconst C (nI 1) dX4_productNeighbors_49 (by decide) ?_
                refine r_aload_n C dX4_productNeighbors_50 rfl 4 rfl ?_
                refine r_get C (Cn := RX4) (T := TX4) (N := 6) (id := (gO h)) (by simp only [gO, gN, gW, gL, gR, gH] <;> omega) inw_X4 (wF_O cs ad (by omega) _ _) rfl 0 (by decide) rfl fl_X4_9 rfl dX4_productNeighbors_51 ?_
                refine r_topi (w := nI n2) hh.1 ?_
                refine r_iload C dX4_productNeighbors_54 6 rfl ?_
                refine r_imul C dX4_productNeighbors_56 ?_
                refine r_topi (pk_mul n2 a) ?_
                refine r_iload C dX4_productNeighbors_57 0 rfl ?_
                refine r_iadd C dX4_productNeighbors_59 ?_
                refine r_topi (nI_add (n2 * a) b) ?_
                refine r_ishl C dX4_productNeighbors_60 ?_
                refine r_topi (w := s1 ((n2 * a) + b)) rfl ?_
                refine r_ior C dX4_productNeighbors_61 ?_
                refine r_istore C [(4, .int ((pmI z y n2 (n2 * i + j) (n2 * a + b)) ||| (s1 ((n2 * a) + b)))), (6, .int (nI b)), (0, .ref (ad (gO g))), (1, .int (nI i)), (2, .ref (ad (gO h))), (3, .int (nI j)), (5, .int (nI a))] dX4_productNeighbors_62 (by decide) rfl ?_
                refine r_lve (lv2 := [(4, .int (pmI z y n2 (n2 * i + j) (n2 * a + (b + 1)))), (6, .int (nI b)), (0, .ref (ad (gO g))), (1, .int (nI i)), (2, .ref (ad (gO h))), (3, .int (nI j)), (5, .int (nI a))]) (by rw [show pmI z y n2 (n2 * i + j) (n2 * a + (b + 1)) = _ from pn_y hj (by omega) (by simp [h34])]) ?_
                refine r_iinc C (nI (b + 1)) [(6, .int (nI (b + 1))), (4, .int (pmI z y n2 (n2 * i + j) (n2 * a + (b + 1)))), (0, .ref (ad (gO g))), (1, .int (nI i)), (2, .ref (ad (gO h))), (3, .int (nI j)), (5, .int (nI a))] dX4_productNeighbors_64 (j := 1) rfl (inc_n b 1) (by decide) rfl ?_
                refine r_goto C 18 dX4_productNeighbors_67 (by decide) ?_
                refine r_lv (lv2 := [(6, .int (nI (b + 1))), (4, .int (pmI z y n2 (n2 * i + j) (n2 * a + (b + 1)))), (0, .ref (ad (gO g))), (1, .int (nI i)), (2, .ref (ad (gO h))), (3, .int (nI j)), (5, .int (nI a))]) [0, 1, 2, 3, 4, 5, 6] rfl ?_
                exact ih_b (b + 1) (by omega) (by omega)
              ·
                refine r_aload_n C dX4_productNeighbors_37 rfl 4 rfl ?_
                refine r_iload_n C dX4_productNeighbors_38 rfl 5 rfl ?_
                refine r_iload C dX4_productNeighbors_39 0 rfl ?_
                refine r_pcallV_i (nA := 2) C (Nat.le_of_ble_eq_true rfl) [.int (nI j), .int (nI b)] (c_X4_areJoined l D cs ad M h  hh9 (gH h) y n2 d2 hh hn2 hm2 j b (by omega) (by omega)) (tt_V ml_X4_63 im_X4_areJoined se_X4_areJoined in_X4 co_X4_areJoined) ⟨rfl, rfl⟩ ⟨rfl, by decide, by decide, by decide⟩ ⟨Nat.le_of_ble_eq_true rfl, Nat.le_of_ble_eq_true rfl⟩ (by simp only [gO, gN, gW, gL, gR, gH] <;> omega) (wF_O cs ad (by omega) _ _) rfl rfl rfl rfl (Nat.le_of_ble_eq_true rfl) dX4_productNeighbors_41 ?_
                refine r_ifB_eq C 64 dX4_productNeighbors_44 (by decide) (fun h44 => ?_) (fun h44 => ?_)
                ·
                  refine r_lve (lv2 := [(6, .int (nI b)), (4, .int (pmI z y n2 (n2 * i + j) (n2 * a + (b + 1)))), (0, .ref (ad (gO g))), (1, .int (nI i)), (2, .ref (ad (gO h))), (3, .int (nI j)), (5, .int (nI a))]) (by rw [show pmI z y n2 (n2 * i + j) (n2 * a + (b + 1)) = _ from pn_n hj (by omega) (by simp [h34, h44])]) ?_
                  refine r_iinc C (nI (b + 1)) [(6, .int (nI (b + 1))), (4, .int (pmI z y n2 (n2 * i + j) (n2 * a + (b + 1)))), (0, .ref (ad (gO g))), (1, .int (nI i)), (2, .ref (ad (gO h))), (3, .int (nI j)), (5, .int (nI a))] dX4_productNeighbors_64 (j := 0) rfl (inc_n b 1) (by decide) rfl ?_
                  refine r_goto C 18 dX4_productNeighbors_67 (by decide) ?_
                  refine r_lv (lv2 := [(6, .int (nI (b + 1))), (4, .int (pmI z y n2 (n2 * i + j) (n2 * a + (b + 1)))), (0, .ref (ad (gO g))), (1, .int (nI i)), (2, .ref (ad (gO h))), (3, .int (nI j)), (5, .int (nI a))]) [0, 1, 2, 3, 4, 5, 6] rfl ?_
                  exact ih_b (b + 1) (by omega) (by omega)
                ·
                  refine r_iload C dX4_productNeighbors_47 1 rfl ?_
                  refine r_iconst C (nI 1) dX4_productNeighbors_49 (by decide) ?_
                  refine r_aload_n C dX4_productNeighbors_50 rfl 4 rfl ?_
                  refine r_get C (Cn := RX4) (T := TX4) (N := 6) (id := (gO h)) (by simp only [gO, gN, gW, gL, gR, gH] <;> omega) inw_X4 (wF_O cs ad (by omega) _ _) rfl 0 (by decide) rfl fl_X4_9 rfl dX4_productNeighbors_51 ?_
                  refine r_topi (w := nI n2) hh.1 ?_
                  refine r_iload C dX4_productNeighbors_54 6 rfl ?_
                  refine r_imul C dX4_productNeighbors_56 ?_
                  refine r_topi (pk_mul n2 a) ?_
                  refine r_iload C dX4_productNeighbors_57 0 rfl ?_
                  refine r_iadd C dX4_productNeighbors_59 ?_
                  refine r_topi (nI_add (n2 * a) b) ?_
                  refine r_ishl C dX4_productNeighbors_60 ?_
                  refine r_topi (w := s1 ((n2 * a) + b)) rfl ?_
                  refine r_ior C dX4_productNeighbors_61 ?_
                  refine r_istore C [(4, .int ((pmI z y n2 (n2 * i + j) (n2 * a + b)) ||| (s1 ((n2 * a) + b)))), (6, .int (nI b)), (0, .ref (ad (gO g))), (1, .int (nI i)), (2, .ref (ad (gO h))), (3, .int (nI j)), (5, .int (nI a))] dX4_productNeighbors_62 (by decide) rfl ?_
                  refine r_lve (lv2 := [(4, .int (pmI z y n2 (n2 * i + j) (n2 * a + (b + 1)))), (6, .int (nI b)), (0, .ref (ad (gO g))), (1, .int (nI i)), (2, .ref (ad (gO h))), (3, .int (nI j)), (5, .int (nI a))]) (by rw [show pmI z y n2 (n2 * i + j) (n2 * a + (b + 1)) = _ from pn_y hj (by omega) (by simp [h34, h44])]) ?_
                  refine r_iinc C (nI (b + 1)) [(6, .int (nI (b + 1))), (4, .int (pmI z y n2 (n2 * i + j) (n2 * a + (b + 1)))), (0, .ref (ad (gO g))), (1, .int (nI i)), (2, .ref (ad (gO h))), (3, .int (nI j)), (5, .int (nI a))] dX4_productNeighbors_64 (j := 1) rfl (inc_n b 1) (by decide) rfl ?_
                  refine r_goto C 18 dX4_productNeighbors_67 (by decide) ?_
                  refine r_lv (lv2 := [(6, .int (nI (b + 1))), (4, .int (pmI z y n2 (n2 * i + j) (n2 * a + (b + 1)))), (0, .ref (ad (gO g))), (1, .int (nI i)), (2, .ref (ad (gO h))), (3, .int (nI j)), (5, .int (nI a))]) [0, 1, 2, 3, 4, 5, 6] rfl ?_
                  exact ih_b (b + 1) (by omega) (by omega)
        refine r_lv (lv2 := [(6, .int (nI 0)), (4, .int (pmI z y n2 (n2 * i + j) (n2 * a + 0))), (0, .ref (ad (gO g))), (1, .int (nI i)), (2, .ref (ad (gO h))), (3, .int (nI j)), (5, .int (nI a))]) [0, 2, 3, 4, 5, 6, 1] rfl ?_
        exact Lq (n2 + 1) 0 (by omega) (by omega)
  refine r_lv (lv2 := [(5, .int (nI 0)), (4, .int (pmI z y n2 (n2 * i + j) (n2 * 0 + 0))), (0, .ref (ad (gO g))), (1, .int (nI i)), (2, .ref (ad (gO h))), (3, .int (nI j))]) [0, 1, 2, 3, 4, 5] rfl ?_
  exact Lp (n1 + 1) 0 (by omega) (by omega)
theorem bp_ab {M M3 : Mm} {z y : Nat → Int32} {g h i j n1 d1 n2 d2 dd : Nat} {x w : Int32} (hg9 : g < 9) (hh9 : h < 9) (hg0 : g ≠ 0) (hh0 : h ≠ 0) (hg : gv M g (gH g) z n1 d1) (hh : gv M h (gH h) y n2 d2) (hn1 : n1 ≤ 8) (hn2 : n2 ≤ 8) (hi : i < n1) (hj : j < n2) (hd1 : d1 ≤ 4) (hd2 : d2 ≤ 4) (hdd : d1 * d2 = dd) (h14 : 1 ≤ d2) (ho : oG 0 M M3) : ∀ p, p < dd → (mI (mI M3 (gN 0) (n2 * i + j) x) (gW 0) (n2 * i + j) w).1 (gR g i) (p / d2) * (mI (mI M3 (gN 0) (n2 * i + j) x) (gW 0) (n2 * i + j) w).1 (gR h j) (p % d2) = plI z y n2 d2 (n2 * i + j) p := fun p hp => by
  have h1 : p / d2 < d1 := by rw [Nat.div_lt_iff_lt_mul (by omega)]; omega
  have h2 : p % d2 < d2 := Nat.mod_lt _ (by omega)
  rw [mI_ne _ (by simp only [gR, gW]; omega), mI_ne _ (by simp only [gR, gN]; omega), mI_ne _ (by simp only [gR, gW]; omega), mI_ne _ (by simp only [gR, gN]; omega), ho.1 _ (by simp only [gR]; omega), ho.1 _ (by simp only [gR]; omega), hg.2.2.2.2.1 i _ hi (by omega), hh.2.2.2.2.1 j _ hj (by omega)]
  unfold plI
  rw [(mu_di hj).1, (mu_di hj).2]
theorem bp_hh {M M3 : Mm} {z y : Nat → Int32} {g h n1 d1 n2 d2 dd : Nat} (hg9 : g < 9) (hh9 : h < 9) (hg0 : g ≠ 0) (hh0 : h ≠ 0) (hg : gv M g (gH g) z n1 d1) (hh : gv M h (gH h) y n2 d2) (hd1 : d1 ≤ 4) (hd2 : d2 ≤ 4) (hdd : d1 * d2 = dd) (h14 : 1 ≤ d2) (ho : oG 0 M M3) : ∀ p, p < dd → M3.1 (gH g) (p / d2) * M3.1 (gH h) (p % d2) = phI z y d2 p := fun p hp => by
  have h1 : p / d2 < d1 := by rw [Nat.div_lt_iff_lt_mul (by omega)]; omega
  have h2 : p % d2 < d2 := Nat.mod_lt _ (by omega)
  rw [ho.1 _ (by simp only [gH]; omega), ho.1 _ (by simp only [gH]; omega), hg.2.2.2.2.2 _ (by omega), hh.2.2.2.2.2 _ (by omega)]
  rfl
theorem pw_s {z y : Nat → Int32} {n2 i j : Nat} (hj : j < n2) : z (2 + i) * y (2 + j) = pwI z y n2 (n2 * i + j) := by
  unfold pwI; rw [(mu_di hj).1, (mu_di hj).2]
set_option maxRecDepth 100000 in
set_option maxHeartbeats 4000000 in
theorem c_X4_becomeProduct (l : Launch) (D : va_G) (cs : Nat → ClassId) (ad : Nat → Nat) (M : Mm) (g h : Nat) (hg9 : g < 9) (hh9 : h < 9) (hg0 : g ≠ 0) (hh0 : h ≠ 0) (z y : Nat → Int32) (n1 d1 n2 d2 : Nat) (hg : gv M g (gH g) z n1 d1) (hh : gv M h (gH h) y n2 d2) (hn1 : n1 ≤ 8) (hn2 : n2 ≤ 8) (hd1 : d1 ≤ 4) (hd2 : d2 ≤ 4) (h11 : 1 ≤ n1) (h12 : 1 ≤ n2) (h13 : 1 ≤ d1) (h14 : 1 ≤ d2) (hm1 : gm z n1) (hm2 : gm y n2) (N dd : Nat) (hN : n1 * n2 = N) (hN8 : N ≤ 8) (hdd : d1 * d2 = dd) (hd4 : dd ≤ 4) (c : Nat → Int32) : ∀ sz : Nat, Met l yX4_becomeProduct (.code yX4_becomeProduct cX4_becomeProduct 6 none :: TT) { frames := 2, cells := 0, slots := 0, locals := 48 } (va_Pc [.ref (ad (gO 0)), .ref (ad (gO g)), .ref (ad (gO h))] (fun U9 => U9.heap.size = sz ∧ wB D cs ad (fA ad sz) M U9)) (va_Qv (fun M2 => oG 0 M M2 ∧ gv M2 0 (gH 0) (mdR c z y N dd n2 d2) N dd) (wB D cs ad (fA ad sz)) (fA ad sz)) 0 0 (fA ad sz) := by
  refine st_V (by decide) (Nat.le_of_ble_eq_true rfl) (fun κ C E => ?_)
  refine r_lv (lv2 := [(0, .ref (ad (gO 0))), (1, .ref (ad (gO g))), (2, .ref (ad (gO h)))]) [0, 1, 2] rfl ?_
  refine r_aload_n C dX4_becomeProduct_0 rfl 0 rfl ?_
  refine r_aload_n C dX4_becomeProduct_1 rfl 1 rfl ?_
  refine r_get C (Cn := RX4) (T := TX4) (N := 6) (id := (gO g)) (by simp only [gO, gN, gW, gL, gR, gH] <;> omega) inw_X4 (wF_O cs ad (by omega) _ _) rfl 0 (by decide) rfl fl_X4_9 rfl dX4_becomeProduct_2 ?_
  refine r_topi (w := nI n1) hg.1 ?_
  refine r_aload_n C dX4_becomeProduct_5 rfl 2 rfl ?_
  refine r_get C (Cn := RX4) (T := TX4) (N := 6) (id := (gO h)) (by simp only [gO, gN, gW, gL, gR, gH] <;> omega) inw_X4 (wF_O cs ad (by omega) _ _) rfl 0 (by decide) rfl fl_X4_9 rfl dX4_becomeProduct_6 ?_
  refine r_topi (w := nI n2) hh.1 ?_
  refine r_imul C dX4_becomeProduct_9 ?_
  refine r_topi (pk_mul n1 n2) ?_
  refine r_aload_n C dX4_becomeProduct_10 rfl 1 rfl ?_
  refine r_get C (Cn := RX4) (T := TX4) (N := 6) (id := (gO g)) (by simp only [gO, gN, gW, gL, gR, gH] <;> omega) inw_X4 (wF_O cs ad (by omega) _ _) rfl 1 (by decide) rfl fl_X4_15 rfl dX4_becomeProduct_11 ?_
  refine r_topi (w := nI d1) hg.2.1 ?_
  refine r_aload_n C dX4_becomeProduct_14 rfl 2 rfl ?_
  refine r_get C (Cn := RX4) (T := TX4) (N := 6) (id := (gO h)) (by simp only [gO, gN, gW, gL, gR, gH] <;> omega) inw_X4 (wF_O cs ad (by omega) _ _) rfl 1 (by decide) rfl fl_X4_15 rfl dX4_becomeProduct_15 ?_
  refine r_topi (w := nI d2) hh.2.1 ?_
  refine r_imul C dX4_becomeProduct_18 ?_
  refine r_topi (pk_mul d1 d2) ?_
  rw [hN, hdd]
  refine r_callV_v (nA := 2) C (Nat.le_of_ble_eq_true rfl) [.int (nI N), .int (nI dd)] (c_X4_clear l D cs ad M  N dd hN8) (tt_V ml_X4_51 im_X4_clear se_X4_clear in_X4 co_X4_clear) ⟨rfl, rfl⟩ ⟨rfl, by decide, by decide, by decide⟩ ⟨Nat.le_of_ble_eq_true rfl, Nat.le_of_ble_eq_true rfl⟩ (by simp only [gO, gN, gW, gL, gR, gH] <;> omega) (wF_O cs ad (by decide) _ _) rfl rfl rfl rfl (Nat.le_of_ble_eq_true rfl) dX4_becomeProduct_19 (fun Mu1 qu1 => ?_)
  refine r_iconst C (nI 0) dX4_becomeProduct_22 (by decide) ?_
  refine r_istore_n C [(3, .int (nI 0)), (0, .ref (ad (gO 0))), (1, .ref (ad (gO g))), (2, .ref (ad (gO h)))] dX4_becomeProduct_23 rfl (by decide) rfl ?_
  have Lp : ∀ (f_i i : Nat) (M3 : Mm), n1 + 1 ≤ i + f_i → i ≤ n1 → bpI M M3 z y N dd n2 d2 (n2 * i + 0) → VV l D cs ad 6 κ 0 M3 24 [(3, .int (nI i)), (0, .ref (ad (gO 0))), (1, .ref (ad (gO g))), (2, .ref (ad (gO h)))] [] := by
    intro f_i
    induction f_i with
    | zero => intro i M3 hk1_i hk2_i hI_i; exact absurd hk1_i (by omega)
    | succ f_i ih_i =>
      intro i M3 hk1_i hk2_i hI_i
      refine r_iload_n C dX4_becomeProduct_24 rfl 0 rfl ?_
      refine r_aload_n C dX4_becomeProduct_25 rfl 2 rfl ?_
      refine r_get C (Cn := RX4) (T := TX4) (N := 6) (id := (gO g)) (by simp only [gO, gN, gW, gL, gR, gH] <;> omega) inw_X4 (wF_O cs ad (by omega) _ _) rfl 0 (by decide) rfl fl_X4_9 rfl dX4_becomeProduct_26 ?_
      refine r_topi (w := nI n1) ((congrFun (hI_i.1.1 _ (by simp only [gO]; omega)) 0).trans hg.1) ?_
      refine r_icmpN_ge C 128 dX4_becomeProduct_29 (by decide) (by omega) (by omega) (fun h29 => ?_) (fun h29 => ?_)
      ·
        have hk9 : n1 = i := by omega
        subst hk9
        refine r_aload_n C dX4_becomeProduct_128 rfl 2 rfl ?_
        refine r_aload_n C dX4_becomeProduct_129 rfl 2 rfl ?_
        refine r_get C (Cn := RX4) (T := TX4) (N := 6) (id := (gO g)) (by simp only [gO, gN, gW, gL, gR, gH] <;> omega) inw_X4 (wF_O cs ad (by omega) _ _) rfl 5 (by decide) rfl fl_X4_30 rfl dX4_becomeProduct_130 ?_
        refine r_aload_n C dX4_becomeProduct_133 rfl 3 rfl ?_
        refine r_aload_n C dX4_becomeProduct_134 rfl 3 rfl ?_
        refine r_get C (Cn := RX4) (T := TX4) (N := 6) (id := (gO h)) (by simp only [gO, gN, gW, gL, gR, gH] <;> omega) inw_X4 (wF_O cs ad (by omega) _ _) rfl 5 (by decide) rfl fl_X4_30 rfl dX4_becomeProduct_135 ?_
        refine r_aload_n C dX4_becomeProduct_138 rfl 1 rfl ?_
        refine r_get C (Cn := RX4) (T := TX4) (N := 6) (id := (gO 0)) (by simp only [gO, gN, gW, gL, gR, gH] <;> omega) inw_X4 (wF_O cs ad (by decide) _ _) rfl 5 (by decide) rfl fl_X4_30 rfl dX4_becomeProduct_139 ?_
        refine r_callS_v (nA := 5) C (Nat.le_of_ble_eq_true rfl) [.ref (ad (gO g)), .ref (ad (gH g)), .ref (ad (gO h)), .ref (ad (gH h)), .ref (ad (gH 0))] (c_X4_fillProduct l D cs ad M3  g (gH g) h (gH h) (gH 0) hg9 hh9 (by simp only [gR, gH] <;> omega) (fun _ _ => (wF_H cs ad (by omega) _ _)) (by simp only [gR, gH] <;> omega) (fun _ _ => (wF_H cs ad (by omega) _ _)) (by simp only [gR, gH] <;> omega) (fun _ _ => (wF_H cs ad (by decide) _ _)) d1 d2 ((congrFun (hI_i.1.1 _ (by simp only [gO]; omega)) 1).trans hg.2.1) ((congrFun (hI_i.1.1 _ (by simp only [gO]; omega)) 1).trans hh.2.1) (by omega) hd1 hd2 (by simp only [gR, gH, gO]; omega) (by simp only [gR, gH, gO]; omega) (by simp only [gR, gH, gO]; omega) (by simp only [gR, gH, gO]; omega)) (tt_S ml_X4_59 st_X4_fillProduct in_X4 co_X4_fillProduct) ⟨rfl, rfl⟩ ⟨rfl, by decide, by decide, by decide⟩ ⟨Nat.le_of_ble_eq_true rfl, Nat.le_of_ble_eq_true rfl⟩ rfl rfl (Nat.le_of_ble_eq_true rfl) dX4_becomeProduct_142 (fun Mu2 qu2 => ?_)
        exact E 0 _ _ _ (Nat.le_of_ble_eq_true rfl) dX4_becomeProduct_145 (bp_e (by rw [Nat.add_zero, Nat.mul_comm, hN] at hI_i; exact hI_i) hN8 hd4 (by rw [← hdd]; exact qu2) (bp_hh hg9 hh9 hg0 hh0 hg hh hd1 hd2 hdd h14 hI_i.1) c)
      ·
        refine r_iconst C (nI 0) dX4_becomeProduct_32 (by decide) ?_
        refine r_istore C [(4, .int (nI 0)), (3, .int (nI i)), (0, .ref (ad (gO 0))), (1, .ref (ad (gO g))), (2, .ref (ad (gO h)))] dX4_becomeProduct_33 (by decide) rfl ?_
        have Lq : ∀ (f_j j : Nat) (M4 : Mm), n2 + 1 ≤ j + f_j → j ≤ n2 → bpI M M4 z y N dd n2 d2 (n2 * i + j) → VV l D cs ad 6 κ 0 M4 35 [(4, .int (nI j)), (0, .ref (ad (gO 0))), (1, .ref (ad (gO g))), (2, .ref (ad (gO h))), (3, .int (nI i))] [] := by
          intro f_j
          induction f_j with
          | zero => intro j M4 hk1_j hk2_j hI_j; exact absurd hk1_j (by omega)
          | succ f_j ih_j =>
            intro j M4 hk1_j hk2_j hI_j
            refine r_iload C dX4_becomeProduct_35 0 rfl ?_
            refine r_aload_n C dX4_becomeProduct_37 rfl 3 rfl ?_
            refine r_get C (Cn := RX4) (T := TX4) (N := 6) (id := (gO h)) (by simp only [gO, gN, gW, gL, gR, gH] <;> omega) inw_X4 (wF_O cs ad (by omega) _ _) rfl 0 (by decide) rfl fl_X4_9 rfl dX4_becomeProduct_38 ?_
            refine r_topi (w := nI n2) ((congrFun (hI_j.1.1 _ (by simp only [gO]; omega)) 0).trans hh.1) ?_
            refine r_icmpN_ge C 122 dX4_becomeProduct_41 (by decide) (by omega) (by omega) (fun h41 => ?_) (fun h41 => ?_)
            ·
              have hk9 : n2 = j := by omega
              subst hk9
              refine r_iinc C (nI (i + 1)) [(3, .int (nI (i + 1))), (4, .int (nI n2)), (0, .ref (ad (gO 0))), (1, .ref (ad (gO g))), (2, .ref (ad (gO h)))] dX4_becomeProduct_122 (j := 4) rfl (inc_n i 1) (by decide) rfl ?_
              refine r_goto C 24 dX4_becomeProduct_125 (by decide) ?_
              refine r_lv (lv2 := [(3, .int (nI (i + 1))), (0, .ref (ad (gO 0))), (1, .ref (ad (gO g))), (2, .ref (ad (gO h)))]) [0, 2, 3, 4] rfl ?_
              exact ih_i (i + 1) _ (by omega) (by omega) (by rw [Nat.mul_succ]; exact hI_j)
            ·
              have hij : n2 * i + j < N := by rw [← hN]; exact mu_lt (show i < n1 by omega) (show j < n2 by omega)
              refine r_aload_n C dX4_becomeProduct_44 rfl 3 rfl ?_
              refine r_get C (Cn := RX4) (T := TX4) (N := 6) (id := (gO h)) (by simp only [gO, gN, gW, gL, gR, gH] <;> omega) inw_X4 (wF_O cs ad (by omega) _ _) rfl 0 (by decide) rfl fl_X4_9 rfl dX4_becomeProduct_45 ?_
              refine r_topi (w := nI n2) ((congrFun (hI_j.1.1 _ (by simp only [gO]; omega)) 0).trans hh.1) ?_
              refine r_iload_n C dX4_becomeProduct_48 rfl 4 rfl ?_
              refine r_imul C dX4_becomeProduct_49 ?_
              refine r_topi (pk_mul n2 i) ?_
              refine r_iload C dX4_becomeProduct_50 0 rfl ?_
              refine r_iadd C dX4_becomeProduct_52 ?_
              refine r_topi (nI_add (n2 * i) j) ?_
              refine r_istore C [(5, .int (nI ((n2 * i) + j))), (4, .int (nI j)), (0, .ref (ad (gO 0))), (1, .ref (ad (gO g))), (2, .ref (ad (gO h))), (3, .int (nI i))] dX4_becomeProduct_53 (by decide) rfl ?_
              refine r_aload_n C dX4_becomeProduct_55 rfl 2 rfl ?_
              refine r_get C (Cn := RX4) (T := TX4) (N := 6) (id := (gO 0)) (by simp only [gO, gN, gW, gL, gR, gH] <;> omega) inw_X4 (wF_O cs ad (by decide) _ _) rfl 2 (by decide) rfl fl_X4_18 rfl dX4_becomeProduct_56 ?_
              refine r_iload C dX4_becomeProduct_59 0 rfl ?_
              refine r_aload_n C dX4_becomeProduct_61 rfl 3 rfl ?_
              refine r_iload_n C dX4_becomeProduct_62 rfl 5 rfl ?_
              refine r_aload_n C dX4_becomeProduct_63 rfl 4 rfl ?_
              refine r_iload C dX4_becomeProduct_64 1 rfl ?_
              refine r_pcallS_i (nA := 4) C (Nat.le_of_ble_eq_true rfl) [.ref (ad (gO g)), .int (nI i), .ref (ad (gO h)), .int (nI j)] (c_X4_productNeighbors l D cs ad M4  g h hg9 hh9 z y n1 d1 n2 d2 (gv_k hg hn1 (fun q hq => hI_j.1.1 q (by simp only [gH] at hq; omega))) (gv_k hh hn2 (fun q hq => hI_j.1.1 q (by simp only [gH] at hq; omega))) hn1 hn2 hm1 hm2 i j (by omega) (by omega) N hN hN8) (tt_S ml_X4_55 st_X4_productNeighbors in_X4 co_X4_productNeighbors) ⟨rfl, rfl⟩ ⟨rfl, by decide, by decide, by decide⟩ ⟨Nat.le_of_ble_eq_true rfl, Nat.le_of_ble_eq_true rfl⟩ rfl rfl (Nat.le_of_ble_eq_true rfl) dX4_becomeProduct_66 ?_
              refine r_iast C (id := (gN 0)) (n := 8) (a := (n2 * i) + j) (by simp only [gO, gN, gW, gL, gR, gH] <;> omega) (fun _ => (wF_N cs ad (by decide) _ _)) (by omega) (by decide) dX4_becomeProduct_69 ?_
              refine r_aload_n C dX4_becomeProduct_70 rfl 2 rfl ?_
              refine r_get C (Cn := RX4) (T := TX4) (N := 6) (id := (gO 0)) (by simp only [gO, gN, gW, gL, gR, gH] <;> omega) inw_X4 (wF_O cs ad (by decide) _ _) rfl 3 (by decide) rfl fl_X4_22 rfl dX4_becomeProduct_71 ?_
              refine r_iload C dX4_becomeProduct_74 0 rfl ?_
              refine r_aload_n C dX4_becomeProduct_76 rfl 3 rfl ?_
              refine r_get C (Cn := RX4) (T := TX4) (N := 6) (id := (gO g)) (by simp only [gO, gN, gW, gL, gR, gH] <;> omega) inw_X4 (wF_O cs ad (by omega) _ _) rfl 3 (by decide) rfl fl_X4_22 rfl dX4_becomeProduct_77 ?_
              refine r_iload_n C dX4_becomeProduct_80 rfl 5 rfl ?_
              refine r_iald C (id := (gW g)) (n := 8) (a := i) (by simp only [gO, gN, gW, gL, gR, gH] <;> omega) (wF_W cs ad (by omega) _ _) (by omega) (by decide) dX4_becomeProduct_81 ?_
              refine r_topi (w := (M4.1 (gW g) i)) (by rw [mI_ne _ (show gW g ≠ gN 0 from (by simp only [gO, gN, gW, gL, gR, gH] <;> omega))]) ?_
              refine r_topi (w := (z (2 + i))) (by rw [hI_j.1.1 _ (by simp only [gW]; omega)]; exact hg.2.2.2.1 _ (by omega)) ?_
              refine r_aload_n C dX4_becomeProduct_82 rfl 4 rfl ?_
              refine r_get C (Cn := RX4) (T := TX4) (N := 6) (id := (gO h)) (by simp only [gO, gN, gW, gL, gR, gH] <;> omega) inw_X4 (wF_O cs ad (by omega) _ _) rfl 3 (by decide) rfl fl_X4_22 rfl dX4_becomeProduct_83 ?_
              refine r_iload C dX4_becomeProduct_86 1 rfl ?_
              refine r_iald C (id := (gW h)) (n := 8) (a := j) (by simp only [gO, gN, gW, gL, gR, gH] <;> omega) (wF_W cs ad (by omega) _ _) (by omega) (by decide) dX4_becomeProduct_88 ?_
              refine r_topi (w := (M4.1 (gW h) j)) (by rw [mI_ne _ (show gW h ≠ gN 0 from (by simp only [gO, gN, gW, gL, gR, gH] <;> omega))]) ?_
              refine r_topi (w := (y (2 + j))) (by rw [hI_j.1.1 _ (by simp only [gW]; omega)]; exact hh.2.2.2.1 _ (by omega)) ?_
              refine r_imul C dX4_becomeProduct_89 ?_
              refine r_iast C (id := (gW 0)) (n := 8) (a := (n2 * i) + j) (by simp only [gO, gN, gW, gL, gR, gH] <;> omega) (fun _ => (wF_W cs ad (by decide) _ _)) (by omega) (by decide) dX4_becomeProduct_90 ?_
              refine r_aload_n C dX4_becomeProduct_91 rfl 3 rfl ?_
              refine r_aload_n C dX4_becomeProduct_92 rfl 3 rfl ?_
              refine r_get C (Cn := RX4) (T := TX4) (N := 6) (id := (gO g)) (by simp only [gO, gN, gW, gL, gR, gH] <;> omega) inw_X4 (wF_O cs ad (by omega) _ _) rfl 4 (by decide) rfl fl_X4_27 rfl dX4_becomeProduct_93 ?_
              refine r_iload_n C dX4_becomeProduct_96 rfl 5 rfl ?_
              refine r_aald C (id := (gL g)) (n := 8) (a := i) (id2 := (gR g i)) (t0 := 4) (by simp only [gO, gN, gW, gL, gR, gH] <;> omega) (wF_L cs ad (by omega) _ _) rfl rfl (by omega) (by decide) (if_pos (by omega)) dX4_becomeProduct_97 ?_
              refine r_aload_n C dX4_becomeProduct_98 rfl 4 rfl ?_
              refine r_aload_n C dX4_becomeProduct_99 rfl 4 rfl ?_
              refine r_get C (Cn := RX4) (T := TX4) (N := 6) (id := (gO h)) (by simp only [gO, gN, gW, gL, gR, gH] <;> omega) inw_X4 (wF_O cs ad (by omega) _ _) rfl 4 (by decide) rfl fl_X4_27 rfl dX4_becomeProduct_100 ?_
              refine r_iload C dX4_becomeProduct_103 1 rfl ?_
              refine r_aald C (id := (gL h)) (n := 8) (a := j) (id2 := (gR h j)) (t0 := 4) (by simp only [gO, gN, gW, gL, gR, gH] <;> omega) (wF_L cs ad (by omega) _ _) rfl rfl (by omega) (by decide) (if_pos (by omega)) dX4_becomeProduct_105 ?_
              refine r_aload_n C dX4_becomeProduct_106 rfl 2 rfl ?_
              refine r_get C (Cn := RX4) (T := TX4) (N := 6) (id := (gO 0)) (by simp only [gO, gN, gW, gL, gR, gH] <;> omega) inw_X4 (wF_O cs ad (by decide) _ _) rfl 4 (by decide) rfl fl_X4_27 rfl dX4_becomeProduct_107 ?_
              refine r_iload C dX4_becomeProduct_110 0 rfl ?_
              refine r_aald C (id := (gL 0)) (n := 8) (a := (n2 * i) + j) (id2 := (gR 0 ((n2 * i) + j))) (t0 := 4) (by simp only [gO, gN, gW, gL, gR, gH] <;> omega) (wF_L cs ad (by decide) _ _) rfl rfl (by omega) (by decide) (if_pos (by omega)) dX4_becomeProduct_112 ?_
              refine r_callS_v (nA := 5) C (Nat.le_of_ble_eq_true rfl) [.ref (ad (gO g)), .ref (ad (gR g i)), .ref (ad (gO h)), .ref (ad (gR h j)), .ref (ad (gR 0 ((n2 * i) + j)))] (c_X4_fillProduct l D cs ad (mI (mI M4 (gN 0) ((n2 * i) + j) (pmI z y n2 (n2 * i + j) N)) (gW 0) ((n2 * i) + j) ((z (2 + i)) * (y (2 + j))))  g (gR g i) h (gR h j) (gR 0 ((n2 * i) + j)) hg9 hh9 (by simp only [gR, gH] <;> omega) (fun _ _ => (wF_R cs ad (by omega) (by omega) _ _)) (by simp only [gR, gH] <;> omega) (fun _ _ => (wF_R cs ad (by omega) (by omega) _ _)) (by simp only [gR, gH] <;> omega) (fun _ _ => (wF_R cs ad (by decide) (by omega) _ _)) d1 d2 ((congrFun (mI_ne _ (by simp only [gO, gW]; omega)) 1).trans ((congrFun (mI_ne _ (by simp only [gO, gN]; omega)) 1).trans ((congrFun (hI_j.1.1 _ (by simp only [gO]; omega)) 1).trans hg.2.1))) ((congrFun (mI_ne _ (by simp only [gO, gW]; omega)) 1).trans ((congrFun (mI_ne _ (by simp only [gO, gN]; omega)) 1).trans ((congrFun (hI_j.1.1 _ (by simp only [gO]; omega)) 1).trans hh.2.1))) (by omega) hd1 hd2 (by simp only [gR, gH, gO]; omega) (by simp only [gR, gH, gO]; omega) (by simp only [gR, gH, gO]; omega) (by simp only [gR, gH, gO]; omega)) (tt_S ml_X4_59 st_X4_fillProduct in_X4 co_X4_fillProduct) ⟨rfl, rfl⟩ ⟨rfl, by decide, by decide, by decide⟩ ⟨Nat.le_of_ble_eq_true rfl, Nat.le_of_ble_eq_true rfl⟩ rfl rfl (Nat.le_of_ble_eq_true rfl) dX4_becomeProduct_113 (fun Mu3 qu3 => ?_)
              refine r_iinc C (nI (j + 1)) [(4, .int (nI (j + 1))), (5, .int (nI ((n2 * i) + j))), (0, .ref (ad (gO 0))), (1, .ref (ad (gO g))), (2, .ref (ad (gO h))), (3, .int (nI i))] dX4_becomeProduct_116 (j := 1) rfl (inc_n j 1) (by decide) rfl ?_
              refine r_goto C 35 dX4_becomeProduct_119 (by decide) ?_
              refine r_lv (lv2 := [(4, .int (nI (j + 1))), (0, .ref (ad (gO 0))), (1, .ref (ad (gO g))), (2, .ref (ad (gO h))), (3, .int (nI i))]) [0, 2, 3, 4, 5] rfl ?_
              exact ih_j (j + 1) _ (by omega) (by omega) (bp_s hI_j (by omega) hN8 hd4 rfl (pw_s (by omega)) rfl (by rw [← hdd]; exact qu3) (bp_ab hg9 hh9 hg0 hh0 hg hh hn1 hn2 (by omega) (by omega) hd1 hd2 hdd h14 hI_j.1))
        refine r_lv (lv2 := [(4, .int (nI 0)), (0, .ref (ad (gO 0))), (1, .ref (ad (gO g))), (2, .ref (ad (gO h))), (3, .int (nI i))]) [0, 2, 3, 4, 1] rfl ?_
        exact Lq (n2 + 1) 0 _ (by omega) (by omega) hI_i
  refine r_lv (lv2 := [(3, .int (nI 0)), (0, .ref (ad (gO 0))), (1, .ref (ad (gO g))), (2, .ref (ad (gO h)))]) [0, 1, 2, 3] rfl ?_
  exact Lp (n1 + 1) 0 _ (by omega) (by omega) (bp_0 qu1 hN8 hd4)
