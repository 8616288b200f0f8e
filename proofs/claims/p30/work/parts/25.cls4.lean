/-! ===== the class: products of graphs, labels by colors (written by wip/whole/gen/cls4.py) ===== -/
theorem mu_lt {p q d1 d2 : Nat} (hp : p < d1) (hq : q < d2) : d2 * p + q < d1 * d2 := by
  have h : d2 * (p + 1) ≤ d2 * d1 := Nat.mul_le_mul_left d2 hp
  rw [Nat.mul_succ] at h
  rw [Nat.mul_comm d1 d2]; omega
theorem mu_di {p q d2 : Nat} (hq : q < d2) : (d2 * p + q) / d2 = p ∧ (d2 * p + q) % d2 = q := by
  constructor
  · rw [Nat.add_comm, Nat.add_mul_div_left _ _ (by omega), Nat.div_eq_of_lt hq, Nat.zero_add]
  · rw [Nat.add_comm, Nat.add_mul_mod_self_left, Nat.mod_eq_of_lt hq]
/-- what fillProduct leaves: the product of the rows a and b in i -/
def fpI (i a b d2 t : Nat) (M M3 : Mm) : Prop := o1 i M M3 ∧ ∀ p, M3.1 i p = if p < t then M.1 a (p / d2) * M.1 b (p % d2) else M.1 i p
theorem fp_0 {i a b d2 : Nat} {M : Mm} : fpI i a b d2 0 M M := ⟨o1.rf _ _, fun p => by rw [if_neg (Nat.not_lt_zero p)]⟩
theorem fp_s {i a b d2 p q : Nat} {M M3 : Mm} {x : Int32} (h : fpI i a b d2 (d2 * p + q) M M3) (hq : q < d2) (hx : x = M.1 a p * M.1 b q) : fpI i a b d2 (d2 * p + (q + 1)) M (mI M3 i (d2 * p + q) x) := by
  subst hx
  refine ⟨h.1.I, fun j => ?_⟩
  rw [mI_eq]; unfold upd
  by_cases e : j = d2 * p + q
  · rw [if_pos e, if_pos (by omega), e, (mu_di hq).1, (mu_di hq).2]
  · rw [if_neg e, h.2 j]
    by_cases w : j < d2 * p + q
    · rw [if_pos w, if_pos (by omega)]
    · rw [if_neg w, if_neg (by omega)]
theorem fp_n {i a b d2 p : Nat} {M M3 : Mm} (h : fpI i a b d2 (d2 * p + d2) M M3) : fpI i a b d2 (d2 * (p + 1) + 0) M M3 := by
  rw [Nat.mul_succ, Nat.add_zero]; exact h
/-- the masks of a product -/
theorem pm_s {z y : Nat → Int32} {n2 i j a b : Nat} (hj : j < n2) (hb : b < n2) : pjB z y n2 (n2 * i + j) (n2 * a + b) = (bt (z (10 + i)) a || bt (y (10 + j)) b) := by
  unfold pjB
  rw [(mu_di hj).1, (mu_di hj).2, (mu_di hb).1, (mu_di hb).2]
/-- a graph is becoming a product, of which the first k vertices are made -/
def bpI (M M3 : Mm) (z y : Nat → Int32) (N dd n2 d2 k : Nat) : Prop := oG 0 M M3 ∧ M3.1 (gO 0) 0 = nI N ∧ M3.1 (gO 0) 1 = nI dd ∧ (∀ v, v < k → M3.1 (gN 0) v = pmI z y n2 v N) ∧ (∀ v, v < k → M3.1 (gW 0) v = pwI z y n2 v) ∧ (∀ v p, v < N → p < 4 → M3.1 (gR 0 v) p = if v < k ∧ p < dd then plI z y n2 d2 v p else nI 0) ∧ ∀ p, p < 4 → M3.1 (gH 0) p = nI 0
theorem bp_0 {M M3 : Mm} {z y : Nat → Int32} {N dd n2 d2 : Nat} (h : clP M M3 N dd) (hN : N ≤ 8) (hd : dd ≤ 4) : bpI M M3 z y N dd n2 d2 0 := by
  obtain ⟨g0, g1, g2, -, -, g5, g6⟩ := (⟨h.1, h.2 cl0⟩ : _ ∧ _)
  refine ⟨g0, g1, g2, fun v hv => absurd hv (Nat.not_lt_zero v), fun v hv => absurd hv (Nat.not_lt_zero v), fun v p hv hp => ?_, fun p hp => ?_⟩
  · rw [g5 v p hv hp, if_neg (by omega)]; unfold emR; rw [if_neg (by omega), if_neg (by omega), if_neg (by omega), if_pos (by omega)]
  · rw [g6 p hp]; unfold emR; rw [if_neg (by omega), if_neg (by omega), if_neg (by omega), if_pos (by omega)]
theorem bp_s {M M3 M4 M5 : Mm} {z y : Nat → Int32} {N dd n2 d2 k a b : Nat} {x w : Int32} (h : bpI M M3 z y N dd n2 d2 k) (hk : k < N) (hN : N ≤ 8) (hd : dd ≤ 4) (hx : x = pmI z y n2 k N) (hw : w = pwI z y n2 k) (e4 : M4 = mI (mI M3 (gN 0) k x) (gW 0) k w) (h5 : fpI (gR 0 k) a b d2 dd M4 M5) (hab : ∀ p, p < dd → M4.1 a (p / d2) * M4.1 b (p % d2) = plI z y n2 d2 k p) : bpI M M5 z y N dd n2 d2 (k + 1) := by
  subst hx; subst hw; subst e4
  obtain ⟨g0, g1, g2, g3, g4, g5, g6⟩ := h
  refine ⟨((g0.I (by decide)).I (by decide)).F (by simp only [gR]; omega) h5.1.1 h5.1.2, ?_, ?_, fun v hv => ?_, fun v hv => ?_, fun v p hv hp => ?_, fun p hp => ?_⟩
  · rw [h5.1.1 _ (by simp only [gO, gR]; omega), mI_ne _ (by decide), mI_ne _ (by decide)]; exact g1
  · rw [h5.1.1 _ (by simp only [gO, gR]; omega), mI_ne _ (by decide), mI_ne _ (by decide)]; exact g2
  · rw [h5.1.1 _ (by simp only [gN, gR]; omega), mI_ne _ (by decide), mI_eq]
    by_cases q : v = k
    · rw [q, upd_e]
    · rw [upd_n _ _ q]; exact g3 v (by omega)
  · rw [h5.1.1 _ (by simp only [gW, gR]; omega), mI_eq]
    by_cases q : v = k
    · rw [q, upd_e]
    · rw [upd_n _ _ q, mI_ne _ (by decide)]; exact g4 v (by omega)
  · by_cases q : v = k
    · subst q
      rw [h5.2 p]
      by_cases q2 : p < dd
      · rw [if_pos q2, hab p q2, if_pos (by omega)]
      · rw [if_neg q2, if_neg (by omega), mI_ne _ (by simp only [gR, gW]; omega), mI_ne _ (by simp only [gR, gN]; omega), g5 v p hk hp, if_neg (by omega)]
    · rw [h5.1.1 _ (by simp only [gR]; omega), mI_ne _ (by simp only [gR, gW]; omega), mI_ne _ (by simp only [gR, gN]; omega), g5 v p hv hp]
      by_cases q2 : v < k ∧ p < dd
      · rw [if_pos q2, if_pos (by omega)]
      · rw [if_neg q2, if_neg (by omega)]
  · rw [h5.1.1 _ (by simp only [gH, gR]; omega), mI_ne _ (by decide), mI_ne _ (by decide)]; exact g6 p hp
section MDL
variable {c z y : Nat → Int32} {N dd n2 d2 : Nat}
theorem md_n {v : Nat} (hv : v < N) (hN : N ≤ 8) : mdR c z y N dd n2 d2 (10 + v) = pmI z y n2 v N := by
  unfold mdR mdG
  rw [if_neg (by omega), if_neg (by omega), if_neg (by omega), if_pos (by omega), show 10 + v - 10 = v by omega]
theorem md_w {v : Nat} (hv : v < N) (hN : N ≤ 8) : mdR c z y N dd n2 d2 (2 + v) = pwI z y n2 v := by
  unfold mdR mdG
  rw [if_neg (by omega), if_neg (by omega), if_pos (by omega), show 2 + v - 2 = v by omega]
theorem md_l {v p : Nat} (hv : v < N) (hp : p < 4) (hN : N ≤ 8) : mdR c z y N dd n2 d2 (18 + 4 * v + p) = if p < dd then plI z y n2 d2 v p else nI 0 := by
  unfold mdR mdG
  have q1 : (18 + 4 * v + p - 18) / 4 = v := by omega
  have q2 : (18 + 4 * v + p - 18) % 4 = p := by omega
  rw [q1, q2, if_neg (by omega), if_neg (by omega), if_neg (by omega), if_neg (by omega), if_neg (by omega)]
  by_cases q : p < dd
  · rw [if_pos (by omega), if_pos q]
  · rw [if_neg (by omega), if_neg (by omega), if_neg q]; exact emZ_z _ (by omega)
theorem md_h {p : Nat} (hp : p < 4) (hN : N ≤ 8) (hd : dd ≤ 4) : mdR c z y N dd n2 d2 (50 + p) = if p < dd then phI z y d2 p else nI 0 := by
  unfold mdR mdG
  rw [if_neg (by omega), if_neg (by omega), if_neg (by omega), if_neg (by omega), if_neg (by omega), if_neg (by omega), show 50 + p - 50 = p by omega]
  by_cases q : p < dd
  · rw [if_pos (by omega), if_pos q]
  · rw [if_neg (by omega), if_neg q]; exact emZ_z _ (by omega)
end MDL
theorem bp_e {M M3 M5 : Mm} {z y : Nat → Int32} {N dd n2 d2 a b : Nat} (h : bpI M M3 z y N dd n2 d2 N) (hN : N ≤ 8) (hd : dd ≤ 4) (h5 : fpI (gH 0) a b d2 dd M3 M5) (hab : ∀ p, p < dd → M3.1 a (p / d2) * M3.1 b (p % d2) = phI z y d2 p) (c : Nat → Int32) : oG 0 M M5 ∧ gv M5 0 (gH 0) (mdR c z y N dd n2 d2) N dd := by
  obtain ⟨g0, g1, g2, g3, g4, g5, g6⟩ := h
  refine ⟨g0.F (by decide) h5.1.1 h5.1.2, ?_, ?_, fun v hv => ?_, fun v hv => ?_, fun v p hv hp => ?_, fun p hp => ?_⟩
  · rw [h5.1.1 _ (by decide)]; exact g1
  · rw [h5.1.1 _ (by decide)]; exact g2
  · rw [h5.1.1 _ (by decide), g3 v hv, md_n hv hN]
  · rw [h5.1.1 _ (by decide), g4 v hv, md_w hv hN]
  · rw [h5.1.1 _ (by simp only [gR, gH]; omega), g5 v p hv hp, md_l hv hp hN]
    by_cases q : p < dd
    · rw [if_pos q, if_pos ⟨hv, q⟩]
    · rw [if_neg q, if_neg (fun w => q w.2)]
  · rw [h5.2 p, md_h hp hN hd]
    by_cases q : p < dd
    · rw [if_pos q, if_pos q, hab p q]
    · rw [if_neg q, if_neg q, g6 p hp]
/-- labels by colors: the first t places -/
def lyI (M M3 : Mm) (z c : Nat → Int32) (n d cn t w : Nat) : Prop := oG 0 M M3 ∧ M3.1 (gO 0) 0 = nI n ∧ M3.1 (gO 0) 1 = nI d ∧ (∀ v, v < n → M3.1 (gN 0) v = z (10 + v)) ∧ (∀ v, v < n → M3.1 (gW 0) v = z (2 + v)) ∧ (∀ v p, v < n → p < 4 → (p < t ∨ (p = t ∧ v < w)) → M3.1 (gR 0 v) p = if nI p = c v then nI 1 else nI 0) ∧ ∀ p, p < t → M3.1 (gH 0) p = lcH cn p
theorem ly_s {M M3 : Mm} {z c : Nat → Int32} {n d cn t w : Nat} {x : Int32} (h : lyI M M3 z c n d cn t w) (hw : w < n) (hn : n ≤ 8) (ht : t < 4) (hx : x = if nI t = c w then nI 1 else nI 0) : lyI M (mI M3 (gR 0 w) t x) z c n d cn t (w + 1) := by
  subst hx
  obtain ⟨g0, g1, g2, g3, g4, g5, g6⟩ := h
  refine ⟨g0.I (by simp only [gR]; omega), ?_, ?_, fun v hv => ?_, fun v hv => ?_, fun v p hv hp hq => ?_, fun p hp => ?_⟩
  · rw [mI_ne _ (by simp only [gO, gR]; omega)]; exact g1
  · rw [mI_ne _ (by simp only [gO, gR]; omega)]; exact g2
  · rw [mI_ne _ (by simp only [gN, gR]; omega)]; exact g3 v hv
  · rw [mI_ne _ (by simp only [gW, gR]; omega)]; exact g4 v hv
  · by_cases e : v = w
    · subst e
      rw [mI_eq]
      by_cases e2 : p = t
      · rw [e2, upd_e]
      · rw [upd_n _ _ e2]; exact g5 v p hv hp (by omega)
    · rw [mI_ne _ (by simp only [gR]; omega)]; exact g5 v p hv hp (by omega)
  · rw [mI_ne _ (by simp only [gH, gR]; omega)]; exact g6 p hp
theorem ly_t {M M3 : Mm} {z c : Nat → Int32} {n d cn t : Nat} {x : Int32} (h : lyI M M3 z c n d cn t n) (hn : n ≤ 8) (ht : t < 4) (hx : x = lcH cn t) : lyI M (mI M3 (gH 0) t x) z c n d cn (t + 1) 0 := by
  subst hx
  obtain ⟨g0, g1, g2, g3, g4, g5, g6⟩ := h
  refine ⟨g0.I (by decide), ?_, ?_, fun v hv => ?_, fun v hv => ?_, fun v p hv hp hq => ?_, fun p hp => ?_⟩
  · rw [mI_ne _ (by decide)]; exact g1
  · rw [mI_ne _ (by decide)]; exact g2
  · rw [mI_ne _ (by decide)]; exact g3 v hv
  · rw [mI_ne _ (by decide)]; exact g4 v hv
  · rw [mI_ne _ (by simp only [gH, gR]; omega)]; exact g5 v p hv hp (by omega)
  · rw [mI_eq]
    by_cases e : p = t
    · rw [e, upd_e]
    · rw [upd_n _ _ e]; exact g6 p (by omega)
theorem ly_e {M M3 : Mm} {z c : Nat → Int32} {n d cn : Nat} (h : lyI M M3 z c n d cn 4 0) (hn : n ≤ 8) : oG 0 M M3 ∧ gv M3 0 (gH 0) (rsK (lcT z c (4 * n)) (lcH cn) 4) n d := by
  obtain ⟨g0, g1, g2, g3, g4, g5, g6⟩ := h
  refine ⟨g0, g1, g2, fun v hv => ?_, fun v hv => ?_, fun v p hv hp => ?_, fun p hp => ?_⟩
  · rw [g3 v hv]; unfold rsK lcT; rw [if_neg (by omega), if_neg (by omega)]
  · rw [g4 v hv]; unfold rsK lcT; rw [if_neg (by omega), if_neg (by omega)]
  · rw [g5 v p hv hp (by omega)]
    have e : rsK (lcT z c (4 * n)) (lcH cn) 4 (18 + 4 * v + p) = if nI p = c v then nI 1 else nI 0 := by
      unfold rsK lcT
      rw [if_neg (by omega), if_pos (by omega), show (18 + 4 * v + p - 18) % 4 = p by omega, show (18 + 4 * v + p - 18) / 4 = v by omega]
    exact e.symm
  · rw [g6 p hp]; unfold rsK; rw [if_pos (by omega)]; congr 1; omega
theorem pn_y {z y : Nat → Int32} {n2 i j a b : Nat} (hj : j < n2) (hb : b < n2) (h : (bt (z (10 + i)) a || bt (y (10 + j)) b) = true) : pmI z y n2 (n2 * i + j) (n2 * a + (b + 1)) = pmI z y n2 (n2 * i + j) (n2 * a + b) ||| s1 (n2 * a + b) := by
  show pmI z y n2 (n2 * i + j) (n2 * a + b) ||| (if pjB z y n2 (n2 * i + j) (n2 * a + b) = true then s1 (n2 * a + b) else nI 0) = _
  rw [pm_s hj hb, if_pos h]
theorem pn_n {z y : Nat → Int32} {n2 i j a b : Nat} (hj : j < n2) (hb : b < n2) (h : (bt (z (10 + i)) a || bt (y (10 + j)) b) = false) : pmI z y n2 (n2 * i + j) (n2 * a + (b + 1)) = pmI z y n2 (n2 * i + j) (n2 * a + b) := by
  show pmI z y n2 (n2 * i + j) (n2 * a + b) ||| (if pjB z y n2 (n2 * i + j) (n2 * a + b) = true then s1 (n2 * a + b) else nI 0) = _
  rw [pm_s hj hb, h, if_neg (by decide)]; exact Int32.or_zero
theorem bp_ab {M M3 : Mm} {z y : Nat → Int32} {g h i j n1 d1 n2 d2 dd : Nat} {x w : Int32} (hg9 : g < 9) (hh9 : h < 9) (hg0 : g ≠ 0) (hh0 : h ≠ 0) (hg : gv M g (gH g) z n1 d1) (hh : gv M h (gH h) y n2 d2) (hn1 : n1 ≤ 8) (hn2 : n2 ≤ 8) (hi : i < n1) (hj : j < n2) (hd1 : d1 ≤ 4) (hd2 : d2 ≤ 4) (hdd : d1 * d2 = dd) (h14 : 1 ≤ d2) (ho : oG 0 M M3) : ∀ p, p < dd → (mI (mI M3 (gN 0) (n2 * i + j) x) (gW 0) (n2 * i + j) w).1 (gR g i) (p / d2) * (mI (mI M3 (gN 0) (n2 * i + j) x) (gW 0) (n2 * i + j) w).1 (gR h j) (p % d2) = plI z y n2 d2 (n2 * i + j) p := fun p hp => by
  have h1 : p / d2 < d1 := by rw [Nat.div_lt_iff_lt_mul (by omega)]; omega
  have h2 : p % d2 < d2 := Nat.mod_lt _ (by omega)
  rw [mI_ne _ (by simp only [gR, gW]; omega), mI_ne _ (by simp only [gR, gN]; omega), mI_ne _ (by simp only [gR, gW]; omega), mI_ne _ (by simp only [gR, gN]; omega), ho.1 _ (by simp only [gR]; omega), ho.1 _ (by simp only [gR]; omega), hg.2.2.2.2.1 i _ hi (by omega), hh.2.2.2.2.1 j _ hj (by omega)]
  unfold plI
  rw [(mu_di hj).1, (mu_di hj).2]
theorem bp_hh {M M3 : Mm} {z y : Nat → Int32} {g h n1 d1 n2 d2 dd : Nat} (hg9 : g < 9) (hh9 : h < 9) (hg0 : g ≠ 0) (hh0 : h ≠ 0) (hg : gv M g (gH g) z n1 d1) (hh : gv M h (gH h) y n2 d2) (hd1 : d1 ≤ 4) (hd2 : d2 ≤ 4) (hdd : d1 * d2 = dd) (h14 : 1 ≤ d2) (ho : oG 0 M M3) : ∀ p, p < dd → M3.1 (gH g) (p / d2) * M3.1 (gH h) (p % d2) = phI z y d2 p := fun p hp => by
  have h1 : p / d2 < d1 := by rw [Nat.div_lt_iff_lt_mul (by omega)]; omega
  have h2 : p % d2 < d2 := Nat.mod_lt _ (by omega)
  rw [ho.1 _ (by simp only [gH]; omega), ho.1 _ (by simp only [gH]; omega), hg.2.2.2.2.2 _ (by omega), hh.2.2.2.2.2 _ (by omega)]
  rfl
theorem pw_s {z y : Nat → Int32} {n2 i j : Nat} (hj : j < n2) : z (2 + i) * y (2 + j) = pwI z y n2 (n2 * i + j) := by
  unfold pwI; rw [(mu_di hj).1, (mu_di hj).2]
