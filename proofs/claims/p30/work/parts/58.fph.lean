/-! ===== the doubles of every graph keep what they must (by hand) ===== -/
theorem bcS_mx {wt U S : Nat → Nat} {H n : Nat} (hS : ∀ v, v < n → 0 < wt v → 0 < S v) : ∀ {k : Nat}, k ≤ n → 0 < (bcS wt U S H k).2.1 ∧ ∀ v, v < k → 0 < wt v → wt v * H * U v * (bcS wt U S H k).2.1 ≤ (bcS wt U S H k).1 * S v
  | 0, _ => ⟨by show 0 < 1; decide, fun v hv => absurd hv (Nat.not_lt_zero v)⟩
  | k + 1, hk => by
    obtain ⟨h1, h2⟩ := bcS_mx (k := k) hS (by omega)
    have e : bcS wt U S H (k + 1) = if 0 < wt k then (if (bcS wt U S H k).1 * S k < wt k * H * U k * (bcS wt U S H k).2.1 then (wt k * H * U k, S k, k + 1) else bcS wt U S H k) else bcS wt U S H k := rfl
    rw [e]
    by_cases q : 0 < wt k
    · rw [if_pos q]
      have hs := hS k (by omega) q
      by_cases t : (bcS wt U S H k).1 * S k < wt k * H * U k * (bcS wt U S H k).2.1
      · rw [if_pos t]
        refine ⟨hs, fun v hv hw => ?_⟩
        show wt v * H * U v * S k ≤ wt k * H * U k * S v
        by_cases e2 : v = k
        · subst e2; exact Nat.le_refl _
        · have h3 := h2 v (by omega) hw
          generalize wt v * H * U v = X at h3 ⊢
          generalize wt k * H * U k = Y at t ⊢
          generalize (bcS wt U S H k).1 = A at h3 t
          generalize (bcS wt U S H k).2.1 = B at h1 h3 t
          refine Nat.le_of_mul_le_mul_right (c := B) ?_ h1
          calc X * S k * B = (X * B) * S k := by rw [Nat.mul_right_comm]
            _ ≤ (A * S v) * S k := Nat.mul_le_mul_right _ h3
            _ = (A * S k) * S v := by rw [Nat.mul_right_comm]
            _ ≤ (Y * B) * S v := Nat.mul_le_mul_right _ (Nat.le_of_lt t)
            _ = Y * S v * B := by rw [Nat.mul_right_comm]
      · rw [if_neg t]
        refine ⟨h1, fun v hv hw => ?_⟩
        by_cases e2 : v = k
        · subst e2; omega
        · exact h2 v (by omega) hw
    · rw [if_neg q]
      refine ⟨h1, fun v hv hw => ?_⟩
      by_cases e2 : v = k
      · subst e2; exact absurd hw q
      · exact h2 v (by omega) hw
/-- the vertices of a mask that weigh anything -/
def inW (wt : Nat → Nat) (m v : Nat) : Bool := m.testBit v && decide (0 < wt v)
theorem ws_in {wt : Nat → Nat} {m v : Nat} : wsN wt m (v + 1) = if inW wt m v = true then wsN wt m v + wt v else wsN wt m v := by
  rw [wsN_s]
  unfold inW
  by_cases q : m.testBit v = true
  · rw [if_pos q, q, Bool.true_and]
    by_cases p : 0 < wt v
    · rw [if_pos (decide_eq_true p)]
    · rw [if_neg (by rw [decide_eq_false p]; decide)]; omega
  · rw [if_neg q, if_neg (by rw [Bool.not_eq_true] at q; rw [q, Bool.false_and]; decide)]; omega
theorem ws_sum {wt U S : Nat → Nat} {s : Nat → Int} {H A B m : Nat} : ∀ {n : Nat}, (∀ v, v < n → inW wt m v = true → wt v * H * U v * B ≤ A * S v) → (∀ v, v < n → s v * s v = (S v : Int)) → (∀ v, v < n → inW wt m v = true → 0 < (U v : Int)) → ((wsN wt m n : Nat) : Int) * (B : Int) * ((H : Int) * beD (inW wt m) (fun v => (U v : Int)) n) ≤ (A : Int) * beT (inW wt m) (fun v => (U v : Int)) s n
  | 0, _, _, _ => by
    show ((0 : Nat) : Int) * (B : Int) * ((H : Int) * beD (inW wt m) (fun v => (U v : Int)) 0) ≤ (A : Int) * 0
    rw [Int.mul_zero, Int.natCast_zero, Int.zero_mul, Int.zero_mul]
    exact Int.le_refl 0
  | n + 1, h1, h2, h3 => by
    have ih := ws_sum (s := s) (H := H) (A := A) (B := B) (n := n) (fun v hv => h1 v (by omega)) (fun v hv => h2 v (by omega)) (fun v hv => h3 v (by omega))
    have hD := beD_p (I := inW wt m) (U := fun v => (U v : Int)) (n := n) (fun v hv => h3 v (by omega))
    rw [ws_in]
    show _ * _ * (_ * (if inW wt m n = true then (U n : Int) * beD (inW wt m) (fun v => (U v : Int)) n else beD (inW wt m) (fun v => (U v : Int)) n)) ≤ _ * (if inW wt m n = true then (U n : Int) * beT (inW wt m) (fun v => (U v : Int)) s n + s n * s n * beD (inW wt m) (fun v => (U v : Int)) n else beT (inW wt m) (fun v => (U v : Int)) s n)
    by_cases q : inW wt m n = true
    · rw [if_pos q, if_pos q, if_pos q, h2 n (by omega)]
      have a1 : ((wt n : Int) * H * U n * B) ≤ (A : Int) * S n := by
        have := h1 n (by omega) q
        exact_mod_cast this
      have a2 := h3 n (by omega) q
      generalize beD (inW wt m) (fun v => (U v : Int)) n = E at ih hD ⊢
      generalize beT (inW wt m) (fun v => (U v : Int)) s n = T at ih ⊢
      rw [Int.natCast_add]
      generalize (wsN wt m n : Int) = w at ih ⊢
      generalize (wt n : Int) = x at a1 ⊢
      generalize (U n : Int) = W at a1 a2 ⊢
      generalize (S n : Int) = Q at a1 ⊢
      generalize (H : Int) = N at ih a1 ⊢
      generalize (A : Int) = a at ih a1 ⊢
      generalize (B : Int) = b at ih a1 ⊢
      have b1 := Int.mul_le_mul_of_nonneg_left ih (Int.le_of_lt a2)
      have b2 := Int.mul_le_mul_of_nonneg_right a1 (Int.le_of_lt hD)
      have c1 : (w + x) * b * (N * (W * E)) = W * (w * b * (N * E)) + x * N * W * b * E := by grind
      have c2 : a * (W * T + Q * E) = W * (a * T) + a * Q * E := by grind
      rw [c1, c2]
      exact Int.add_le_add b1 b2
    · rw [if_neg q, if_neg q, if_neg q]; exact ih
theorem dI_u (z : Nat → Int32) (a b : Nat) : dvI (fun p => (z (a + p)).toInt) (fun p => (z (b + p)).toInt) = dI z a b := rfl
theorem cq_le {z : Nat → Int32} {n m : Nat} {mk : Nat → Nat} (hn : n ≤ 8) (hk : gk z n mk) (hs : gs z n) (hw : gw z n (wtz z)) (hl : ∀ v, v < n → vb z (18 + 4 * v)) (hh : vb z 50) (hr : rsz z n = nI 0) (hm : m < 2 ^ n) (hc : cqP mk m n) : wsN (wtz z) m n * bnB (wtz z) (Uz z) (Sz z) (Hz z) n ≤ bnA (wtz z) (Uz z) (Sz z) (Hz z) n := by
  obtain ⟨hB, hP⟩ := bnH_of hn hw hl hh (rs_up hn hk hr)
  have hmf : mfR z n = -1 := by
    by_cases q : mfR z n = -1
    · exact q
    · unfold rsz at hr
      rw [if_neg q] at hr
      exact absurd hr (by decide)
  have hfit := (fiR_m1 (p := mfp z) (n := 8 * n) (by omega)).mp hmf
  have ho : ∀ a b, a < b → b < n → m.testBit a = true → m.testBit b = true → dI z (18 + 4 * a) (18 + 4 * b) = 0 := fun a b hab hb ha hbb => by
    have h1 := hc a b hab hb ha hbb
    rw [gs_tb hn hk hs hb (by omega)] at h1
    have h2 := hfit (8 * a + b) (by omega)
    unfold mfp at h2
    rw [show (8 * a + b) % 8 = b by omega, show (8 * a + b) / 8 = a by omega, (hk a (by omega)).2, bt_tb (n2_256 hn (hk a (by omega)).1) (by omega), h1, decide_eq_false (by omega), dotz_I] at h2
    have h3 : Int32.ofInt (dI z (18 + 4 * a) (18 + 4 * b)) = 0 := by
      by_cases q : Int32.ofInt (dI z (18 + 4 * a) (18 + 4 * b)) = 0
      · exact q
      · rw [decide_eq_false q] at h2; exact absurd h2 (by decide)
    have h4 := dI_b (hl a (by omega)) (hl b hb)
    have h5 := congrArg Int32.toInt h3
    rw [oI_toInt (by omega)] at h5
    exact h5
  have hmx := bcS_mx (U := Uz z) (H := Hz z) hB.2.2.2.2.2 (Nat.le_refl n)
  have e0 := (bc_bn (S := Sz z) hP (v := n) (Nat.le_refl n)).1
  rw [e0] at hmx
  have hI : ∀ v, inW (wtz z) m v = true → m.testBit v = true ∧ 0 < wtz z v := fun v h => by
    unfold inW at h
    rw [Bool.and_eq_true, decide_eq_true_iff] at h; exact h
  have hU : ∀ v, ((Uz z v : Nat) : Int) = dI z (18 + 4 * v) (18 + 4 * v) := fun v => by
    have := dI_nn z (18 + 4 * v)
    unfold Uz; omega
  have hUf : (fun v => ((Uz z v : Nat) : Int)) = fun v => dvI (fun p => (z (18 + 4 * v + p)).toInt) (fun p => (z (18 + 4 * v + p)).toInt) := funext fun v => (hU v).trans (dI_u z _ _).symm
  have hsum := ws_sum (wt := wtz z) (U := Uz z) (S := Sz z) (s := fun v => dI z 50 (18 + 4 * v)) (H := Hz z) (A := (bnS (wtz z) (Uz z) (Sz z) (Hz z) n).1) (B := (bnS (wtz z) (Uz z) (Sz z) (Hz z) n).2.1) (m := m) (n := n) (fun v hv h => hmx.2 v hv (hI v h).2) (fun v hv => by unfold Sz; exact Int.natAbs_mul_self.symm) (fun v hv h => by have := (hP v hv (hI v h).2).2; omega)
  have hpos : ∀ v, v < n → inW (wtz z) m v = true → 0 < dvI (fun p => (z (18 + 4 * v + p)).toInt) (fun p => (z (18 + 4 * v + p)).toInt) := fun v hv h => by
    have := (hP v hv (hI v h).2).2
    rw [dI_u, ← hU]; omega
  have hbes := bes (u := fun v p => (z (18 + 4 * v + p)).toInt) (I := inW (wtz z) m) (n := n) (fun a b hab hb ha hbb => ho a b hab hb (hI a ha).1 (hI b hbb).1) hpos (fun p => (z (50 + p)).toInt)
  have hDp := beD_p (I := inW (wtz z) m) (U := fun v => dvI (fun p => (z (18 + 4 * v + p)).toInt) (fun p => (z (18 + 4 * v + p)).toInt)) (n := n) hpos
  rw [hUf] at hsum
  have hbs : beT (inW (wtz z) m) (fun v => dvI (fun p => (z (18 + 4 * v + p)).toInt) (fun p => (z (18 + 4 * v + p)).toInt)) (fun v => dI z 50 (18 + 4 * v)) n ≤ ((Hz z : Nat) : Int) * beD (inW (wtz z) m) (fun v => dvI (fun p => (z (18 + 4 * v + p)).toInt) (fun p => (z (18 + 4 * v + p)).toInt)) n := by
    have e : ((Hz z : Nat) : Int) = dvI (fun p => (z (50 + p)).toInt) (fun p => (z (50 + p)).toInt) := by
      have := dI_nn z 50
      rw [dI_u]; unfold Hz; omega
    rw [e]; exact hbes
  have key : wsN (wtz z) m n * (bnS (wtz z) (Uz z) (Sz z) (Hz z) n).2.1 ≤ (bnS (wtz z) (Uz z) (Sz z) (Hz z) n).1 := by
    by_cases q : 0 < Hz z
    · have hA : (0 : Int) ≤ ((bnS (wtz z) (Uz z) (Sz z) (Hz z) n).1 : Int) := Int.natCast_nonneg _
      have h4 := Int.le_trans hsum (Int.mul_le_mul_of_nonneg_left hbs hA)
      have h5 := Int.le_of_mul_le_mul_right h4 (Int.mul_pos (by omega) hDp)
      exact_mod_cast h5
    · have e : ∀ k, k ≤ n → wsN (wtz z) m k = 0 := fun k => by
        induction k with
        | zero => intro _; rfl
        | succ k ih =>
          intro hkn
          rw [ws_in, ih (by omega)]
          split
          · rename_i h
            have := (hP k (by omega) (hI k h).2).1
            omega
          · rfl
      rw [e n (Nat.le_refl n), Nat.zero_mul]; exact Nat.zero_le _
  unfold bnA bnB
  have hB0 := hmx.1
  generalize (bnS (wtz z) (Uz z) (Sz z) (Hz z) n).1 = A at key ⊢
  generalize (bnS (wtz z) (Uz z) (Sz z) (Hz z) n).2.1 = B at key hB0 ⊢
  have hg : 0 < Nat.gcd A B := Nat.gcd_pos_of_pos_right _ hB0
  obtain ⟨a, ha⟩ := Nat.gcd_dvd_left A B
  obtain ⟨b, hb⟩ := Nat.gcd_dvd_right A B
  generalize Nat.gcd A B = g at hg ha hb ⊢
  subst ha; subst hb
  rw [Nat.mul_div_cancel_left _ hg, Nat.mul_div_cancel_left _ hg]
  rw [Nat.mul_left_comm] at key
  exact Nat.le_of_mul_le_mul_left key hg
