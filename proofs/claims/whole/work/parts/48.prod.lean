/-! ===== pure: products, labels by colors, the best handle's row, texts (by hand) ===== -/
theorem mx_sp {f : Nat → Int32} {g : Nat → Nat} : ∀ {n : Nat}, (∀ j, j < n → f j = nI (g j) ∧ g j < 2 ^ 20) → ∃ m, mx9 f n = nI m ∧ m < 2 ^ 20 ∧ (∀ j, j < n → g j ≤ m) ∧ (m = 0 ∨ ∃ j, j < n ∧ g j = m)
  | 0, _ => ⟨0, rfl, by decide, fun j hj => absurd hj (Nat.not_lt_zero j), Or.inl rfl⟩
  | n + 1, h => by
    obtain ⟨m, e, hm, h1, h2⟩ := mx_sp (n := n) (fun j hj => h j (by omega))
    have hn := h n (by omega)
    unfold mx9
    rw [e, hn.1]
    by_cases q : m < g n
    · rw [if_pos ((nI_ltI (by omega) (by omega)).mpr q)]
      exact ⟨g n, rfl, hn.2, fun j hj => by
        rcases Nat.lt_or_ge j n with w | w
        · have := h1 j w; omega
        · have : j = n := by omega
          rw [this]; exact Nat.le_refl _, Or.inr ⟨n, by omega, rfl⟩⟩
    · rw [if_neg (fun w => q ((nI_ltI (by omega) (by omega)).mp w))]
      refine ⟨m, rfl, hm, fun j hj => ?_, h2.imp id (fun ⟨j, hj, w⟩ => ⟨j, by omega, w⟩)⟩
      rcases Nat.lt_or_ge j n with w | w
      · exact h1 j w
      · have : j = n := by omega
        rw [this]; omega
def aN (x : Int32) : Nat := x.toInt.natAbs
theorem ok9_c {x : Int32} (h : ok9 x) : ∃ k, k < 19 ∧ x = nI k - nI 9 := by
  refine ⟨(x.toInt + 9).toNat, by unfold ok9 at h; omega, ?_⟩
  apply Int32.toInt_inj.mp
  unfold ok9 at h
  rw [pk_sub_toInt (by omega) (by omega)]
  omega
theorem ok9_a {x : Int32} (h : ok9 x) : ab9 x = nI (aN x) ∧ aN x ≤ 9 := by
  obtain ⟨k, hk, rfl⟩ := ok9_c h
  have h2 : ∀ k : Fin 19, ab9 (nI k.val - nI 9) = nI (aN (nI k.val - nI 9)) ∧ aN (nI k.val - nI 9) ≤ 9 := by decide +kernel
  exact h2 ⟨k, hk⟩
theorem ok9_m {x y : Int32} (hx : ok9 x) (hy : ok9 y) : wit (x * y) (-9) (nI 9) = decide (aN x * aN y ≤ 9) := by
  obtain ⟨k, hk, rfl⟩ := ok9_c hx
  obtain ⟨j, hj, rfl⟩ := ok9_c hy
  have h2 : ∀ k j : Fin 19, wit ((nI k.val - nI 9) * (nI j.val - nI 9)) (-9) (nI 9) = decide (aN (nI k.val - nI 9) * aN (nI j.val - nI 9) ≤ 9) := by decide +kernel
  exact h2 ⟨k, hk⟩ ⟨j, hj⟩
theorem fur_sp {x : Nat → Int32} (h : ∀ p, p < 4 → ok9 (x p)) : ∃ m, fur x = nI m ∧ m ≤ 9 ∧ (∀ p, p < 4 → aN (x p) ≤ m) ∧ (m = 0 ∨ ∃ p, p < 4 ∧ aN (x p) = m) := by
  obtain ⟨m, h1, h2, h3, h4⟩ := mx_sp (f := fun p => ab9 (x p)) (g := fun p => aN (x p)) (n := 4) (fun p hp => ⟨(ok9_a (h p hp)).1, Nat.lt_of_le_of_lt (ok9_a (h p hp)).2 (by decide)⟩)
  refine ⟨m, h1, ?_, h3, h4⟩
  rcases h4 with q | ⟨p, hp, q⟩
  · omega
  · have := (ok9_a (h p hp)).2; omega
theorem wpB_t {z y : Nat → Int32} {n2 : Nat} : ∀ {m : Nat}, wpB z y n2 m = true ↔ ∀ k, k < m → ¬ nI 9 < pwI z y n2 k
  | 0 => ⟨fun _ k hk => absurd hk (Nat.not_lt_zero k), fun _ => rfl⟩
  | m + 1 => by
    unfold wpB
    rw [Bool.and_eq_true, wpB_t (m := m)]
    constructor
    · rintro ⟨h1, h2⟩ k hk
      rcases Nat.lt_or_ge k m with q | q
      · exact h1 k q
      · have : k = m := by omega
        subst this; simpa using h2
    · intro h
      exact ⟨fun k hk => h k (by omega), by simpa using h m (by omega)⟩
theorem fpB_t {z y : Nat → Int32} {n2 d2 k : Nat} {b : Bool} : ∀ {m : Nat}, fpB z y n2 d2 k b m = true ↔ b = true ∧ ∀ p, p < m → wit (plI z y n2 d2 k p) (-9) (nI 9) = true
  | 0 => ⟨fun h => ⟨h, fun k hk => absurd hk (Nat.not_lt_zero k)⟩, fun h => h.1⟩
  | m + 1 => by
    unfold fpB
    rw [Bool.and_eq_true, fpB_t (m := m)]
    constructor
    · rintro ⟨⟨h1, h2⟩, h3⟩
      refine ⟨h1, fun p hp => ?_⟩
      rcases Nat.lt_or_ge p m with q | q
      · exact h2 p q
      · have : p = m := by omega
        subst this; exact h3
    · intro h
      exact ⟨⟨h.1, fun p hp => h.2 p (by omega)⟩, h.2 m (by omega)⟩
theorem fkB_t {z y : Nat → Int32} {n2 d2 dd : Nat} : ∀ {m : Nat}, fkB z y n2 d2 dd m = true ↔ ∀ k, k < m → ∀ p, p < dd → wit (plI z y n2 d2 k p) (-9) (nI 9) = true
  | 0 => ⟨fun _ k hk => absurd hk (Nat.not_lt_zero k), fun _ => rfl⟩
  | m + 1 => by
    unfold fkB
    rw [fpB_t, fkB_t (m := m)]
    constructor
    · rintro ⟨h1, h2⟩ k hk
      rcases Nat.lt_or_ge k m with q | q
      · exact h1 k q
      · have : k = m := by omega
        subst this; exact h2
    · intro h
      exact ⟨fun k hk => h k (by omega), h m (by omega)⟩
theorem fhB_t {z y : Nat → Int32} {d2 : Nat} {b : Bool} : ∀ {m : Nat}, fhB z y d2 b m = true ↔ b = true ∧ ∀ p, p < m → wit (phI z y d2 p) (-9) (nI 9) = true
  | 0 => ⟨fun h => ⟨h, fun k hk => absurd hk (Nat.not_lt_zero k)⟩, fun h => h.1⟩
  | m + 1 => by
    unfold fhB
    rw [Bool.and_eq_true, fhB_t (m := m)]
    constructor
    · rintro ⟨⟨h1, h2⟩, h3⟩
      refine ⟨h1, fun p hp => ?_⟩
      rcases Nat.lt_or_ge p m with q | q
      · exact h2 p q
      · have : p = m := by omega
        subst this; exact h3
    · intro h
      exact ⟨⟨h.1, fun p hp => h.2 p (by omega)⟩, h.2 m (by omega)⟩
theorem dv_lt {k n n2 N : Nat} (hN : n * n2 = N) (hk : k < N) : k / n2 < n ∧ k % n2 < n2 := by
  have h2 : 0 < n2 := by
    rcases Nat.eq_zero_or_pos n2 with q | q
    · rw [q, Nat.mul_zero] at hN; omega
    · exact q
  exact ⟨Nat.div_lt_of_lt_mul (by rw [Nat.mul_comm, hN]; exact hk), Nat.mod_lt _ h2⟩
theorem mul_9 {a b c d : Nat} (h1 : a ≤ c) (h2 : b ≤ d) (h : c * d ≤ 9) : a * b ≤ 9 := Nat.le_trans (Nat.mul_le_mul h1 h2) h
section RZ
variable {z y : Nat → Int32} {n d n2 d2 N dd : Nat} {e1 e2 : Nat → Nat → Bool}
theorem pw_N (h1 : gq z n d e1) (h2 : gq y n2 d2 e2) (hN : n * n2 = N) {k : Nat} (hk : k < N) : ∃ a b, z (2 + k / n2) = nI a ∧ y (2 + k % n2) = nI b ∧ a ≤ 9 ∧ b ≤ 9 ∧ pwI z y n2 k = nI (a * b) := by
  obtain ⟨q1, q2⟩ := dv_lt hN hk
  obtain ⟨a, ha, ea⟩ := h1.2.2.2.2.2.2.1 _ q1
  obtain ⟨b, hb, eb9⟩ := h2.2.2.2.2.2.2.1 _ q2
  exact ⟨a, b, ea, eb9, ha, hb, by unfold pwI; rw [ea, eb9, pk_mul]⟩
/-- the weights decide alike -/
theorem rz_w (h1 : gq z n d e1) (h2 : gq y n2 d2 e2) (hN : n * n2 = N) : (nI 9 < mx9 (fun v => z (2 + v)) n * mx9 (fun v => y (2 + v)) n2) ↔ ¬ wpB z y n2 N = true := by
  have g1 := gw_mk h1.2.2.2.2.2.2.1
  have g2 := gw_mk h2.2.2.2.2.2.2.1
  obtain ⟨A, a1, a2, a3, a4⟩ := mx_sp (f := fun v => z (2 + v)) (g := wtz z) (n := n) (fun j hj => ⟨(g1 j hj).1, Nat.lt_of_le_of_lt (g1 j hj).2 (by decide)⟩)
  obtain ⟨B, b1, b2, b3, b4⟩ := mx_sp (f := fun v => y (2 + v)) (g := wtz y) (n := n2) (fun j hj => ⟨(g2 j hj).1, Nat.lt_of_le_of_lt (g2 j hj).2 (by decide)⟩)
  have hA : A ≤ 9 := by rcases a4 with q | ⟨j, hj, q⟩; omega; have := (g1 j hj).2; omega
  have hB : B ≤ 9 := by rcases b4 with q | ⟨j, hj, q⟩; omega; have := (g2 j hj).2; omega
  have hAB : A * B ≤ 81 := Nat.mul_le_mul hA hB
  rw [a1, b1, pk_mul, nI_ltI (by omega) (by omega), wpB_t]
  constructor
  · intro h hw
    have hA0 : A ≠ 0 := fun q => by rw [q, Nat.zero_mul] at h; omega
    have hB0 : B ≠ 0 := fun q => by rw [q, Nat.mul_zero] at h; omega
    obtain ⟨v, hv, ev⟩ := a4.resolve_left hA0
    obtain ⟨w, hw2, ew⟩ := b4.resolve_left hB0
    have hk : n2 * v + w < N := by rw [← hN]; exact mu_lt hv hw2
    have := hw _ hk
    unfold pwI at this
    rw [(mu_di hw2).1, (mu_di hw2).2, (g1 v hv).1, (g2 w hw2).1, ev, ew, pk_mul, nI_ltI (by omega) (by omega)] at this
    exact this h
  · intro h
    apply Classical.byContradiction
    intro h9
    refine h (fun k hk => ?_)
    obtain ⟨q1, q2⟩ := dv_lt hN hk
    have := mul_9 (a3 _ q1) (b3 _ q2) (Nat.le_of_not_lt h9)
    unfold pwI
    rw [(g1 _ q1).1, (g2 _ q2).1, pk_mul, nI_ltI (by omega) (by omega)]
    omega
theorem lab_sp {z : Nat → Int32} {n d : Nat} {e : Nat → Nat → Bool} (h : gq z n d e) : ∃ m, mx9 (fun v => fur (fun p => z (18 + 4 * v + p))) n = nI m ∧ m ≤ 9 ∧ (∀ v p, v < n → p < 4 → aN (z (18 + 4 * v + p)) ≤ m) ∧ (m = 0 ∨ ∃ v p, v < n ∧ p < 4 ∧ aN (z (18 + 4 * v + p)) = m) := by
  have hf : ∀ v, v < n → ∃ m, fur (fun p => z (18 + 4 * v + p)) = nI m ∧ m ≤ 9 ∧ (∀ p, p < 4 → aN (z (18 + 4 * v + p)) ≤ m) ∧ (m = 0 ∨ ∃ p, p < 4 ∧ aN (z (18 + 4 * v + p)) = m) := fun v hv => fur_sp (fun p hp => (h.2.2.2.2.2.2.2.1 v p hv hp).1)
  let g : Nat → Nat := fun v => (fur (fun p => z (18 + 4 * v + p))).toInt.toNat
  have hg : ∀ v, v < n → fur (fun p => z (18 + 4 * v + p)) = nI (g v) ∧ g v ≤ 9 ∧ (∀ p, p < 4 → aN (z (18 + 4 * v + p)) ≤ g v) ∧ (g v = 0 ∨ ∃ p, p < 4 ∧ aN (z (18 + 4 * v + p)) = g v) := fun v hv => by
    obtain ⟨m, e1, e2, e3, e4⟩ := hf v hv
    have : g v = m := by
      show (fur (fun p => z (18 + 4 * v + p))).toInt.toNat = m
      rw [e1, nI_toInt (by omega)]; rfl
    rw [this]; exact ⟨e1, e2, e3, e4⟩
  obtain ⟨m, a1, a2, a3, a4⟩ := mx_sp (f := fun v => fur (fun p => z (18 + 4 * v + p))) (g := g) (n := n) (fun j hj => ⟨(hg j hj).1, Nat.lt_of_le_of_lt (hg j hj).2.1 (by decide)⟩)
  refine ⟨m, a1, ?_, fun v p hv hp => Nat.le_trans ((hg v hv).2.2.1 p hp) (a3 v hv), ?_⟩
  · rcases a4 with q | ⟨j, hj, q⟩
    · omega
    · have := (hg j hj).2.1; omega
  · rcases a4 with q | ⟨j, hj, q⟩
    · exact Or.inl q
    · rcases (hg j hj).2.2.2 with w | ⟨p, hp, w⟩
      · left; omega
      · exact Or.inr ⟨j, p, hj, hp, by omega⟩
/-- two vectors' numbers furthest from 0 and all their products -/
theorem far_2 {A B : Nat} {x w : Nat → Nat} (h3 : ∀ p, x p ≤ A) (h4 : ∀ p, w p ≤ B) : A * B ≤ 9 → ∀ p q, x p * w q ≤ 9 := fun h p q => mul_9 (h3 p) (h4 q) h
theorem rz_l (h1 : gq z n d e1) (h2 : gq y n2 d2 e2) (hN : n * n2 = N) (hdd : d * d2 = dd) : (nI 9 < mx9 (fun v => fur (fun p => z (18 + 4 * v + p))) n * mx9 (fun v => fur (fun p => y (18 + 4 * v + p))) n2) ↔ ¬ fkB z y n2 d2 dd N = true := by
  obtain ⟨A, a1, a2, a3, a4⟩ := lab_sp h1
  obtain ⟨B, b1, b2, b3, b4⟩ := lab_sp h2
  have hAB : A * B ≤ 81 := Nat.mul_le_mul a2 b2
  rw [a1, b1, pk_mul, nI_ltI (by omega) (by omega), fkB_t]
  constructor
  · intro h hw
    have hA0 : A ≠ 0 := fun q => by rw [q, Nat.zero_mul] at h; omega
    have hB0 : B ≠ 0 := fun q => by rw [q, Nat.mul_zero] at h; omega
    obtain ⟨v, p, hv, hp, ev⟩ := a4.resolve_left hA0
    obtain ⟨w, q, hw2, hq, ew⟩ := b4.resolve_left hB0
    have hp2 : p < d := Classical.byContradiction (fun c => by
      rw [(h1.2.2.2.2.2.2.2.1 v p hv hp).2 (by omega)] at ev
      exact hA0 (ev.symm.trans (by decide)))
    have hq2 : q < d2 := Classical.byContradiction (fun c => by
      rw [(h2.2.2.2.2.2.2.2.1 w q hw2 hq).2 (by omega)] at ew
      exact hB0 (ew.symm.trans (by decide)))
    have hk : n2 * v + w < N := by rw [← hN]; exact mu_lt hv hw2
    have hk2 : d2 * p + q < dd := by rw [← hdd]; exact mu_lt hp2 hq2
    have := hw _ hk _ hk2
    unfold plI at this
    rw [(mu_di hw2).1, (mu_di hw2).2, (mu_di hq2).1, (mu_di hq2).2, ok9_m (h1.2.2.2.2.2.2.2.1 v p hv hp).1 (h2.2.2.2.2.2.2.2.1 w q hw2 hq).1, ev, ew, decide_eq_true_eq] at this
    omega
  · intro h
    apply Classical.byContradiction
    intro h9
    refine h (fun k hk p hp => ?_)
    obtain ⟨q1, q2⟩ := dv_lt hN hk
    obtain ⟨q3, q4⟩ := dv_lt hdd hp
    have hd4 := h1.2.2.2.1.2
    have hd24 := h2.2.2.2.1.2
    unfold plI
    rw [show 18 + 4 * (k % n2) + p % d2 = 18 + 4 * (k % n2) + (p % d2) from rfl, ok9_m (h1.2.2.2.2.2.2.2.1 _ (p / d2) q1 (by omega)).1 (h2.2.2.2.2.2.2.2.1 _ (p % d2) q2 (by omega)).1, decide_eq_true_eq]
    exact mul_9 (a3 _ _ q1 (by omega)) (b3 _ _ q2 (by omega)) (Nat.le_of_not_lt h9)
theorem rz_h (h1 : gq z n d e1) (h2 : gq y n2 d2 e2) (hdd : d * d2 = dd) : (nI 9 < fur (fun p => z (50 + p)) * fur (fun p => y (50 + p))) ↔ ¬ fhB z y d2 true dd = true := by
  obtain ⟨A, a1, a2, a3, a4⟩ := fur_sp (x := fun p => z (50 + p)) (fun p hp => (h1.2.2.2.2.2.2.2.2 p hp).1)
  obtain ⟨B, b1, b2, b3, b4⟩ := fur_sp (x := fun p => y (50 + p)) (fun p hp => (h2.2.2.2.2.2.2.2.2 p hp).1)
  have hAB : A * B ≤ 81 := Nat.mul_le_mul a2 b2
  rw [a1, b1, pk_mul, nI_ltI (by omega) (by omega), fhB_t]
  constructor
  · intro h hw
    have hA0 : A ≠ 0 := fun q => by rw [q, Nat.zero_mul] at h; omega
    have hB0 : B ≠ 0 := fun q => by rw [q, Nat.mul_zero] at h; omega
    obtain ⟨p, hp, ev⟩ := a4.resolve_left hA0
    obtain ⟨q, hq, ew⟩ := b4.resolve_left hB0
    have ev : aN (z (50 + p)) = A := ev
    have ew : aN (y (50 + q)) = B := ew
    have hp2 : p < d := Classical.byContradiction (fun c => by
      rw [(h1.2.2.2.2.2.2.2.2 p hp).2 (by omega)] at ev
      exact hA0 (ev.symm.trans (by decide)))
    have hq2 : q < d2 := Classical.byContradiction (fun c => by
      rw [(h2.2.2.2.2.2.2.2.2 q hq).2 (by omega)] at ew
      exact hB0 (ew.symm.trans (by decide)))
    have hk2 : d2 * p + q < dd := by rw [← hdd]; exact mu_lt hp2 hq2
    have := hw.2 _ hk2
    unfold phI at this
    rw [(mu_di hq2).1, (mu_di hq2).2, ok9_m (h1.2.2.2.2.2.2.2.2 p hp).1 (h2.2.2.2.2.2.2.2.2 q hq).1, ev, ew, decide_eq_true_eq] at this
    omega
  · intro h
    apply Classical.byContradiction
    intro h9
    refine h ⟨rfl, fun p hp => ?_⟩
    obtain ⟨q3, q4⟩ := dv_lt hdd hp
    have hd4 := h1.2.2.2.1.2
    have hd24 := h2.2.2.2.1.2
    unfold phI
    rw [ok9_m (h1.2.2.2.2.2.2.2.2 (p / d2) (by omega)).1 (h2.2.2.2.2.2.2.2.2 (p % d2) (by omega)).1, decide_eq_true_eq]
    exact mul_9 (a3 _ (by omega)) (b3 _ (by omega)) (Nat.le_of_not_lt h9)
theorem fh_and {b : Bool} : fhB z y d2 b dd = true ↔ b = true ∧ fhB z y d2 true dd = true := by
  rw [fhB_t, fhB_t]
  exact ⟨fun h => ⟨h.1, rfl, h.2⟩, fun h => ⟨h.1, h.2.2⟩⟩
/-- class and reference refuse a product alike -/
theorem rz_lpr (h1 : gq z n d e1) (h2 : gq y n2 d2 e2) (hN : n * n2 = N) (hdd : d * d2 = dd) (hN8 : N ≤ 8) (hd4 : dd ≤ 4) : rzI z y n n2 N dd = lpr z y N dd n2 d2 := by
  unfold rzI lpr
  rw [if_neg (show ¬ 8 < N by omega), if_neg (show ¬ 4 < dd by omega)]
  by_cases q1 : wpB z y n2 N = true
  · rw [if_neg (fun w => (rz_w h1 h2 hN).mp w q1), if_pos q1]
    by_cases q2 : fhB z y d2 (fkB z y n2 d2 dd N) dd = true
    · rw [if_pos q2]
      obtain ⟨q3, q4⟩ := fh_and.mp q2
      rw [if_neg (fun w => w.elim (fun w => (rz_l h1 h2 hN hdd).mp w q3) (fun w => (rz_h h1 h2 hdd).mp w q4))]
    · rw [if_neg q2, if_pos]
      by_cases q3 : fkB z y n2 d2 dd N = true
      · exact Or.inr ((rz_h h1 h2 hdd).mpr (fun w => q2 (fh_and.mpr ⟨q3, w⟩)))
      · exact Or.inl ((rz_l h1 h2 hN hdd).mpr q3)
  · rw [if_pos ((rz_w h1 h2 hN).mpr q1), if_neg q1]
theorem lpr_0 (h : lpr z y N dd n2 d2 = nI 0) : wpB z y n2 N = true ∧ fkB z y n2 d2 dd N = true ∧ fhB z y d2 true dd = true := by
  unfold lpr at h
  by_cases q1 : wpB z y n2 N = true
  · rw [if_pos q1] at h
    by_cases q2 : fhB z y d2 (fkB z y n2 d2 dd N) dd = true
    · exact ⟨q1, fh_and.mp q2⟩
    · rw [if_neg q2] at h; exact absurd h (by decide)
  · rw [if_neg q1] at h; exact absurd h (by decide)
theorem pm_b {k : Nat} : ∀ {m i : Nat}, m ≤ 8 → i < 32 → xb (pmI z y n2 k m) i = (decide (i < m) && pjB z y n2 k i)
  | 0, i, _, hi => by unfold pmI; rw [xb_0 hi]; simp
  | m + 1, i, hm, hi => by
    unfold pmI
    rw [xb_or, pm_b (m := m) (by omega) hi]
    by_cases q : i = m
    · subst q
      by_cases w : pjB z y n2 k i = true
      · rw [if_pos w, xb_s1 (by omega) hi, w]; simp
      · rw [if_neg w, xb_0 hi]; simp at w; simp [w]
    · have e : xb (if pjB z y n2 k m = true then s1 m else nI 0) i = false := by
        split
        · rw [xb_s1 (by omega) hi]; simp [show ¬ m = i by omega]
        · exact xb_0 hi
      rw [e, Bool.or_false]
      by_cases q2 : i < m
      · simp [q2, show i < m + 1 by omega]
      · simp [q2, show ¬ i < m + 1 by omega]
/-- the product is a graph -/
theorem gq_md (h1 : gq z n d e1) (h2 : gq y n2 d2 e2) (hN : n * n2 = N) (hdd : d * d2 = dd) (hN8 : N ≤ 8) (hd4 : dd ≤ 4) (h0 : lpr z y N dd n2 d2 = nI 0) (c : Nat → Int32) : gq (mdR c z y N dd n2 d2) N dd (fun k i => e1 (k / n2) (i / n2) || e2 (k % n2) (i % n2)) := by
  obtain ⟨w1, w2, w3⟩ := lpr_0 h0
  have p1 : 1 ≤ N := by rw [← hN]; exact Nat.mul_pos h1.2.2.1.1 h2.2.2.1.1
  have p2 : 1 ≤ dd := by rw [← hdd]; exact Nat.mul_pos h1.2.2.2.1.1 h2.2.2.2.1.1
  refine ⟨rfl, rfl, ⟨p1, hN8⟩, ⟨p2, hd4⟩, fun v hv i hi => ?_, fun a b ha hb => ?_, fun v hv => ?_, fun v p hv hp => ?_, fun p hp => ?_⟩
  · rw [md_n hv hN8, pm_b hN8 hi]
    by_cases q : i < N
    · obtain ⟨a1, a2⟩ := dv_lt hN hv
      obtain ⟨b1, b2⟩ := dv_lt hN q
      unfold pjB
      rw [eb_bt h1.2.2.1.2 h1.2.2.2.2.1 a1 b1, eb_bt h2.2.2.1.2 h2.2.2.2.2.1 a2 b2]
    · simp [q]
  · obtain ⟨a1, a2⟩ := dv_lt hN ha
    obtain ⟨b1, b2⟩ := dv_lt hN hb
    show (e1 (a / n2) (b / n2) || e2 (a % n2) (b % n2)) = (e1 (b / n2) (a / n2) || e2 (b % n2) (a % n2))
    rw [h1.2.2.2.2.2.1 _ _ a1 b1, h2.2.2.2.2.2.1 _ _ a2 b2]
  · obtain ⟨a, b, -, -, ha, hb, e⟩ := pw_N h1 h2 hN hv
    have := wpB_t.mp w1 v hv
    have hab : a * b ≤ 81 := Nat.mul_le_mul ha hb
    rw [md_w hv hN8]
    rw [e, nI_ltI (by omega) (by omega)] at this
    exact ⟨a * b, by omega, e⟩
  · rw [md_l hv hp hN8]
    by_cases q : p < dd
    · rw [if_pos q]; exact ⟨ok9_of (fkB_t.mp w2 v hv p q), fun w => absurd w (by omega)⟩
    · rw [if_neg q]; exact ⟨ok9_0, fun _ => rfl⟩
  · rw [md_h hp hN8 hd4]
    by_cases q : p < dd
    · rw [if_pos q]; exact ⟨ok9_of ((fhB_t.mp w3).2 p q), fun w => absurd w (by omega)⟩
    · rw [if_neg q]; exact ⟨ok9_0, fun _ => rfl⟩
end RZ
