/-! ===== pure: the bound as the law finds it; what a look leaves (by hand) ===== -/
theorem fr_tr {X A B Y s t : Nat} (hB : 0 < B) (h1 : X * B ≤ A * s) (h2 : A * t ≤ Y * B) : X * t ≤ Y * s := by
  refine Nat.le_of_mul_le_mul_right (c := B) ?_ hB
  calc X * t * B = (X * B) * t := by rw [Nat.mul_right_comm]
    _ ≤ (A * s) * t := Nat.mul_le_mul_right _ h1
    _ = (A * t) * s := by rw [Nat.mul_right_comm]
    _ ≤ (Y * B) * s := Nat.mul_le_mul_right _ h2
    _ = Y * s * B := by rw [Nat.mul_right_comm]
theorem fr_tl {X A B Y s t : Nat} (hs : 0 < s) (h1 : X * B ≤ A * s) (h2 : A * t < Y * B) : X * t < Y * s := by
  refine Nat.lt_of_mul_lt_mul_right (a := B) ?_
  calc X * t * B = (X * B) * t := by rw [Nat.mul_right_comm]
    _ ≤ (A * s) * t := Nat.mul_le_mul_right _ h1
    _ = (A * t) * s := by rw [Nat.mul_right_comm]
    _ < (Y * B) * s := Nat.mul_lt_mul_of_pos_right h2 hs
    _ = Y * s * B := by rw [Nat.mul_right_comm]
/-- the greatest fraction as the law finds it: from the last vertex down, the later one where two are alike -/
def dsS (wt U S : Nat → Nat) (H n : Nat) : Nat → Nat × Nat × Nat
  | 0 => (0, 1, 0)
  | k + 1 => if 0 < wt (n - 1 - k) ∧ (dsS wt U S H n k).1 * S (n - 1 - k) ≤ wt (n - 1 - k) * H * U (n - 1 - k) * (dsS wt U S H n k).2.1 then (wt (n - 1 - k) * H * U (n - 1 - k), S (n - 1 - k), n - 1 - k + 1) else dsS wt U S H n k
/-- q is the first greatest of the fractions of the vertices from a to b -/
def FM (wt U S : Nat → Nat) (H a b : Nat) (q : Nat × Nat × Nat) : Prop := 0 < q.2.1 ∧ (∀ v, a ≤ v → v < b → 0 < wt v → wt v * H * U v * q.2.1 ≤ q.1 * S v) ∧ ((q = (0, 1, 0) ∧ ∀ v, a ≤ v → v < b → wt v = 0) ∨ ∃ w, a ≤ w ∧ w < b ∧ 0 < wt w ∧ q = (wt w * H * U w, S w, w + 1) ∧ ∀ v, a ≤ v → v < w → 0 < wt v → wt v * H * U v * S w < wt w * H * U w * S v)
section DS
variable {wt U S : Nat → Nat} {H n : Nat}
theorem FM.un {a b : Nat} {q r : Nat × Nat × Nat} (hq : FM wt U S H a b q) (hr : FM wt U S H a b r) : q = r := by
  obtain ⟨-, q1, q2⟩ := hq
  obtain ⟨-, r1, r2⟩ := hr
  rcases q2 with ⟨rfl, q3⟩ | ⟨w, h1, h2, h3, rfl, h4⟩
  · rcases r2 with ⟨rfl, -⟩ | ⟨w, h1, h2, h3, -⟩
    · rfl
    · exact absurd (q3 w h1 h2) (by omega)
  · rcases r2 with ⟨rfl, r3⟩ | ⟨x, g1, g2, g3, rfl, g4⟩
    · exact absurd (r3 w h1 h2) (by omega)
    · have e : w = x := by
        rcases Nat.lt_trichotomy w x with p | p | p
        · have k1 := g4 w h1 p h3
          have k2 := q1 x g1 g2 g3
          exact absurd k1 (Nat.not_lt.mpr k2)
        · exact p
        · have k1 := h4 x g1 p g3
          have k2 := r1 w h1 h2 h3
          exact absurd k1 (Nat.not_lt.mpr k2)
      rw [e]
theorem FM_bc (hS : ∀ v, v < n → 0 < wt v → 0 < S v) (hp : hpos n wt U H) : ∀ {k : Nat}, k ≤ n → FM wt U S H 0 k (bcS wt U S H k)
  | 0, _ => ⟨(show 0 < 1 by decide), fun v _ hv => absurd hv (Nat.not_lt_zero v), Or.inl ⟨rfl, fun v _ hv => absurd hv (Nat.not_lt_zero v)⟩⟩
  | k + 1, hk => by
    obtain ⟨h1, h2, h3⟩ := FM_bc hS hp (k := k) (by omega)
    obtain ⟨m1, m2⟩ := bcS_mx hS (wt := wt) (U := U) (S := S) (H := H) hk
    refine ⟨m1, fun v _ hv hw => m2 v hv hw, ?_⟩
    have e : bcS wt U S H (k + 1) = if 0 < wt k then (if (bcS wt U S H k).1 * S k < wt k * H * U k * (bcS wt U S H k).2.1 then (wt k * H * U k, S k, k + 1) else bcS wt U S H k) else bcS wt U S H k := rfl
    by_cases q : 0 < wt k
    · rw [if_pos q] at e
      by_cases t : (bcS wt U S H k).1 * S k < wt k * H * U k * (bcS wt U S H k).2.1
      · rw [if_pos t] at e
        exact Or.inr ⟨k, Nat.zero_le k, by omega, q, e, fun v _ hv hw => fr_tl (hS v (by omega) hw) (h2 v (Nat.zero_le v) hv hw) t⟩
      · rw [if_neg t] at e
        rw [e]
        rcases h3 with ⟨h3, h4⟩ | ⟨w, g1, g2, g3, g4, g5⟩
        · exfalso
          apply t
          have hpp := hp k (by omega) q
          rw [h3]
          show 0 * S k < wt k * H * U k * 1
          rw [Nat.zero_mul, Nat.mul_one]; exact Nat.mul_pos (Nat.mul_pos q hpp.1) hpp.2
        · exact Or.inr ⟨w, g1, by omega, g3, g4, g5⟩
    · rw [if_neg q] at e
      rw [e]
      rcases h3 with ⟨h3, h4⟩ | ⟨w, g1, g2, g3, g4, g5⟩
      · refine Or.inl ⟨h3, fun v _ hv => ?_⟩
        rcases Nat.lt_or_eq_of_le (Nat.le_of_lt_succ hv) with p | p
        · exact h4 v (Nat.zero_le v) p
        · rw [p]; omega
      · exact Or.inr ⟨w, g1, by omega, g3, g4, g5⟩
theorem ds_y {k w : Nat} (hw : n - k = w + 1) (h : 0 < wt w) (h2 : (dsS wt U S H n k).1 * S w ≤ wt w * H * U w * (dsS wt U S H n k).2.1) : dsS wt U S H n (k + 1) = (wt w * H * U w, S w, w + 1) := by
  have e : n - 1 - k = w := by omega
  rw [dsS, e, if_pos ⟨h, h2⟩]
theorem ds_n {k w : Nat} (hw : n - k = w + 1) (h : ¬ 0 < wt w ∨ ¬ (dsS wt U S H n k).1 * S w ≤ wt w * H * U w * (dsS wt U S H n k).2.1) : dsS wt U S H n (k + 1) = dsS wt U S H n k := by
  have e : n - 1 - k = w := by omega
  rw [dsS, e, if_neg (fun q => h.elim (fun g => g q.1) (fun g => g q.2))]
theorem FM_ds (hS : ∀ v, v < n → 0 < wt v → 0 < S v) : ∀ {k : Nat}, k ≤ n → FM wt U S H (n - k) n (dsS wt U S H n k)
  | 0, _ => ⟨(show 0 < 1 by decide), fun v h1 h2 => absurd h1 (by omega), Or.inl ⟨rfl, fun v h1 h2 => absurd h1 (by omega)⟩⟩
  | k + 1, hk => by
    obtain ⟨h1, h2, h3⟩ := FM_ds hS (k := k) (by omega)
    obtain ⟨w, hw⟩ : ∃ w, n - k = w + 1 := ⟨n - k - 1, by omega⟩
    have ew : n - (k + 1) = w := by omega
    rw [ew]
    rw [hw] at h2 h3
    by_cases q : 0 < wt w
    · by_cases t : (dsS wt U S H n k).1 * S w ≤ wt w * H * U w * (dsS wt U S H n k).2.1
      · rw [ds_y hw q t]
        refine ⟨hS w (by omega) q, fun v g1 g2 g3 => ?_, Or.inr ⟨w, Nat.le_refl w, by omega, q, rfl, fun v g1 g2 => absurd g2 (by omega)⟩⟩
        show wt v * H * U v * S w ≤ wt w * H * U w * S v
        by_cases e : v = w
        · subst e; exact Nat.le_refl _
        · exact fr_tr h1 (h2 v (by omega) g2 g3) t
      · rw [ds_n hw (Or.inr t)]
        refine ⟨h1, fun v g1 g2 g3 => ?_, ?_⟩
        · by_cases e : v = w
          · subst e; exact Nat.le_of_lt (Nat.not_le.mp t)
          · exact h2 v (by omega) g2 g3
        · rcases h3 with ⟨h3, h4⟩ | ⟨x, g1, g2, g3, g4, g5⟩
          · exfalso
            apply t
            rw [h3]
            show 0 * S w ≤ _
            rw [Nat.zero_mul]; exact Nat.zero_le _
          · refine Or.inr ⟨x, by omega, g2, g3, g4, fun v k1 k2 k3 => ?_⟩
            by_cases e : v = w
            · subst e
              have t2 := Nat.not_le.mp t
              rw [g4] at t2
              exact t2
            · exact g5 v (by omega) k2 k3
    · rw [ds_n hw (Or.inl q)]
      refine ⟨h1, fun v g1 g2 g3 => ?_, ?_⟩
      · by_cases e : v = w
        · subst e; exact absurd g3 q
        · exact h2 v (by omega) g2 g3
      · rcases h3 with ⟨h3, h4⟩ | ⟨x, g1, g2, g3, g4, g5⟩
        · refine Or.inl ⟨h3, fun v g1 g2 => ?_⟩
          by_cases e : v = w
          · subst e; omega
          · exact h4 v (by omega) g2
        · refine Or.inr ⟨x, by omega, g2, g3, g4, fun v k1 k2 k3 => ?_⟩
          by_cases e : v = w
          · subst e; exact absurd k3 q
          · exact g5 v (by omega) k2 k3
/-- from both ends the same -/
theorem ds_bn (hS : ∀ v, v < n → 0 < wt v → 0 < S v) (hp : hpos n wt U H) : dsS wt U S H n n = bnS wt U S H n := by
  rw [← (bc_bn hp (Nat.le_refl n)).1]
  have h := FM_ds (U := U) (H := H) hS (Nat.le_refl n)
  rw [Nat.sub_self] at h
  exact h.un (FM_bc hS hp (Nat.le_refl n))
theorem ds_le {z : Nat → Int32} (h : bnH z n wt U S H) : ∀ {k : Nat}, k ≤ n → (dsS wt U S H n k).1 ≤ 1440000 ∧ 0 < (dsS wt U S H n k).2.1 ∧ (dsS wt U S H n k).2.1 ≤ 200000
  | 0, _ => show (0 : Nat) ≤ 1440000 ∧ 0 < 1 ∧ 1 ≤ 200000 from by decide
  | k + 1, hk => by
    have ih := ds_le h (k := k) (by omega)
    obtain ⟨w, hw⟩ : ∃ w, n - k = w + 1 := ⟨n - k - 1, by omega⟩
    by_cases q : 0 < wt w ∧ (dsS wt U S H n k).1 * S w ≤ wt w * H * U w * (dsS wt U S H n k).2.1
    · rw [ds_y hw q.1 q.2]
      exact ⟨tb_le h (by omega), h.2.2.2.2.2 w (by omega) q.1, (h.2.2.1 w (by omega)).2⟩
    · rw [ds_n hw (by
        by_cases q1 : 0 < wt w
        · exact Or.inr (fun t => q ⟨q1, t⟩)
        · exact Or.inl q1)]
      exact ih
end DS
/-- one number less, down to -1 -/
def pvI (t : Nat) : Int32 := nI t - nI 1
theorem pv_s (w : Nat) : pvI (w + 1) = nI w := by unfold pvI; exact nI_pred w
theorem pv_lt {t : Nat} (ht : t < 100) : pvI t < 0 ↔ t = 0 := by
  constructor
  · intro h
    rcases t with _ | w
    · rfl
    · rw [pv_s] at h; exact absurd h (nI_pos (by omega))
  · intro h; subst h; decide
theorem lk_LR {M M2 : Mm} {z : Nat → Int32} {n d : Nat} {e : Nat → Nat → Bool} (h : LR M z n d e) (hk : ∀ i, 135 ≤ i → i < 140 → M2.1 i = M.1 i) : LR M2 z n d e := by
  unfold LR
  rw [hk 135 (by decide) (by decide), hk 136 (by decide) (by decide), hk 137 (by decide) (by decide), hk 138 (by decide) (by decide), hk 139 (by decide) (by decide)]
  exact h
/-- what the class holds: the graph of row z, with the edges e, s saved states -/
def CS (M : Mm) (z : Nat → Int32) (n d : Nat) (e : Nat → Nat → Bool) (s : Nat) : Prop := gq z n d e ∧ n ≤ 4 ∧ (∀ a, a < n → e a a = false) ∧ gv M 0 (gH 0) z n d ∧ M.1 117 9 = z 54 ∧ (∀ k, k < 2 → M.1 119 k = nI 0) ∧ s ≤ 6 ∧ M.1 120 3 = nI s ∧ ∃ lt, lt < 6 ∧ M.1 120 2 = nI lt
theorem lk_CS {M M2 : Mm} {z : Nat → Int32} {n d s : Nat} {e : Nat → Nat → Bool} (h : CS M z n d e s) (hk : ∀ i, i < 125 → M2.1 i = M.1 i) : CS M2 z n d e s := by
  obtain ⟨h1, h2, h3, h4, h5, h6, h7, h8, lt, h9, h10⟩ := h
  refine ⟨h1, h2, h3, gv_k h4 (by omega) (fun i hi => hk i (by simp only [gH] at hi; omega)), by rw [hk 117 (by decide)]; exact h5, fun k q => by rw [hk 119 (by decide)]; exact h6 k q, h7, by rw [hk 120 (by decide)]; exact h8, lt, h9, by rw [hk 120 (by decide)]; exact h10⟩
theorem lkC {M M2 : Mm} {z : Nat → Int32} {n d s : Nat} {e : Nat → Nat → Bool} (h : CS M z n d e s) (hk : lkP M M2) : CS M2 z n d e s := lk_CS h (fun i hi => (hk i (by omega)).1)
theorem lkL {M M2 : Mm} {z : Nat → Int32} {n d : Nat} {e : Nat → Nat → Bool} (h : LR M z n d e) (hk : lkP M M2) : LR M2 z n d e := lk_LR h (fun i hi _ => (hk i (by omega)).1)
theorem lk_0 (M : Mm) : lkP M M := fun _ _ => ⟨rfl, rfl⟩
/-- the numbers above and below are in bounds, whatever the graph -/
theorem bnA_b {z : Nat → Int32} {n : Nat} (h6 : gw z n (wtz z)) (h7 : ∀ v, v < n → vb z (18 + 4 * v)) (h8 : vb z 50) : bnA (wtz z) (Uz z) (Sz z) (Hz z) n < 2 ^ 62 := by
  have hnum : ∀ k, k ≤ n → (bnS (wtz z) (Uz z) (Sz z) (Hz z) k).1 ≤ 1440000 := fun k => by
    induction k with
    | zero => intro _; exact Nat.zero_le _
    | succ k ih =>
      intro hk
      unfold bnS
      split
      · have a1 := (h6 k (by omega)).2
        have a2 : Hz z ≤ 400 := by have := dI_b h8 h8; unfold Hz; omega
        have a3 : Uz z k ≤ 400 := by have := dI_b (h7 k (by omega)) (h7 k (by omega)); unfold Uz; omega
        have m1 : wtz z k * Hz z ≤ 9 * 400 := Nat.mul_le_mul a1 a2
        exact Nat.mul_le_mul m1 a3
      · exact ih (by omega)
  have ha := Nat.div_le_self (bnS (wtz z) (Uz z) (Sz z) (Hz z) n).1 (Nat.gcd (bnS (wtz z) (Uz z) (Sz z) (Hz z) n).1 (bnS (wtz z) (Uz z) (Sz z) (Hz z) n).2.1)
  have hb := hnum n (Nat.le_refl n)
  unfold bnA
  omega
/-- the heaviest clique's weight, and that it is no more than the bound -/
theorem hv_le {z : Nat → Int32} {n d : Nat} {mk : Nat → Nat} (hz : gz z n d) (h4 : gk z n mk) (hr : rsz z n = nI 0) : ∃ w, w ≤ 72 ∧ wz z n (hvz z n (nI 0)) = nI w ∧ w * (bnS (wtz z) (Uz z) (Sz z) (Hz z) n).2.1 ≤ (bnS (wtz z) (Uz z) (Sz z) (Hz z) n).1 := by
  obtain ⟨h0, h1, h2, h3, -, h5, h6, h7, h8, h9, h10⟩ := hz
  have hcl : icl z (nI 0) n = true := (icl_cq h2.2 h4 h5 (Nat.two_pow_pos n)).mpr (fun a b _ _ ha => by rw [Nat.zero_testBit] at ha; cases ha)
  have hm := hcS_lt (z := z) (w := 0) (Nat.two_pow_pos n) (Nat.le_refl (2 ^ n))
  have hv := (hc_hv h2.2 h4 h6 h5 (Nat.two_pow_pos n) hcl (Nat.le_refl _)).2 (Nat.two_pow_pos n)
  have hhv : hvz z n (nI 0) = nI (hcS z n 0 (2 ^ n)) := hv.1
  have hcq := (icl_cq h2.2 h4 h5 hm).mp hv.2
  have hbd := cq_le h2.2 h4 h5 h6 h7 h8 hr hm hcq
  have hwN := wz_N h6 (n2_256 h2.2 hm) h2.2 (Nat.le_refl n)
  have hwb := wsN_le (m := hcS z n 0 (2 ^ n)) (fun u hu => (h6 u hu).2) (v := n) (Nat.le_refl n)
  refine ⟨wsN (wtz z) (hcS z n 0 (2 ^ n)) n, by omega, by rw [hhv, hwN], ?_⟩
  have hg1 := Nat.div_mul_cancel (Nat.gcd_dvd_left (bnS (wtz z) (Uz z) (Sz z) (Hz z) n).1 (bnS (wtz z) (Uz z) (Sz z) (Hz z) n).2.1)
  have hg2 := Nat.div_mul_cancel (Nat.gcd_dvd_right (bnS (wtz z) (Uz z) (Sz z) (Hz z) n).1 (bnS (wtz z) (Uz z) (Sz z) (Hz z) n).2.1)
  have h9 := Nat.mul_le_mul_right (Nat.gcd (bnS (wtz z) (Uz z) (Sz z) (Hz z) n).1 (bnS (wtz z) (Uz z) (Sz z) (Hz z) n).2.1) hbd
  unfold bnA bnB at h9
  rw [Nat.mul_assoc, hg1, hg2] at h9
  exact h9
theorem rs_1 {z : Nat → Int32} {n a b : Nat} (ha : a < 8) (hb : b < 8) (h : mfR z n = nI (8 * a + b)) : ¬ rsz z n = nI 0 := by
  unfold rsz
  rw [h, if_neg (m1_ne (by omega))]; decide
theorem rs_2 {z : Nat → Int32} {n v : Nat} (hv : v < 8) (h : mfR z n = -1) (h2 : upR z n = nI v) : ¬ rsz z n = nI 0 := by
  unfold rsz
  rw [if_pos h, h2, if_neg (m1_ne (by omega))]; decide
theorem rs_0 {z : Nat → Int32} {n : Nat} (h : mfR z n = -1) (h2 : upR z n = -1) : rsz z n = nI 0 := by
  unfold rsz
  rw [if_pos h, if_pos h2]
theorem up_c (z : Nat → Int32) {n : Nat} (hn : n ≤ 8) : upR z n = -1 ∨ ∃ v, v < n ∧ upR z n = nI v := by
  unfold upR fiR
  by_cases h : fi (upr z) n < n
  · rw [if_pos h]; exact Or.inr ⟨_, h, rfl⟩
  · rw [if_neg h]; exact Or.inl rfl
