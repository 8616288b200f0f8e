/-! ===== pure: what the numbers of a row are in bounds (by hand) ===== -/
/-- the product of two vectors of a row, as a whole number -/
def dI (z : Nat → Int32) (a b : Nat) : Int := (z a).toInt * (z b).toInt + (z (a + 1)).toInt * (z (b + 1)).toInt + (z (a + 2)).toInt * (z (b + 2)).toInt + (z (a + 3)).toInt * (z (b + 3)).toInt
theorem mul_oI (x y : Int32) : x * y = Int32.ofInt (x.toInt * y.toInt) := by
  rw [Int32.ofInt_mul, Int32.ofInt_toInt, Int32.ofInt_toInt]
theorem dotz_I (z : Nat → Int32) (a b : Nat) : dotz z a b = Int32.ofInt (dI z a b) := by
  show nI 0 + z (a + 0) * z (b + 0) + z (a + 1) * z (b + 1) + z (a + 2) * z (b + 2) + z (a + 3) * z (b + 3) = _
  unfold dI
  rw [Int32.ofInt_add, Int32.ofInt_add, Int32.ofInt_add, ← mul_oI, ← mul_oI, ← mul_oI, ← mul_oI, Nat.add_zero, Nat.add_zero, show nI 0 = 0 from rfl, Int32.zero_add]
/-- the numbers of a vector -/
def vb (z : Nat → Int32) (a : Nat) : Prop := ∀ p, p < 4 → -9 ≤ (z (a + p)).toInt ∧ (z (a + p)).toInt ≤ 9
theorem m9 {x y : Int} (hx : -9 ≤ x ∧ x ≤ 9) (hy : -9 ≤ y ∧ y ≤ 9) : -81 ≤ x * y ∧ x * y ≤ 81 := by
  have h : x.natAbs * y.natAbs ≤ 9 * 9 := Nat.mul_le_mul (by omega) (by omega)
  rw [← Int.natAbs_mul] at h
  omega
theorem sq_0 {x : Int} : 0 ≤ x * x := by
  rcases Int.le_total 0 x with h | h
  · exact Int.mul_nonneg h h
  · exact Int.mul_nonneg_of_nonpos_of_nonpos h h
theorem dI_b {z : Nat → Int32} {a b : Nat} (ha : vb z a) (hb : vb z b) : -324 ≤ dI z a b ∧ dI z a b ≤ 324 := by
  have h0 := m9 (ha 0 (by decide)) (hb 0 (by decide))
  have h1 := m9 (ha 1 (by decide)) (hb 1 (by decide))
  have h2 := m9 (ha 2 (by decide)) (hb 2 (by decide))
  have h3 := m9 (ha 3 (by decide)) (hb 3 (by decide))
  simp only [Nat.add_zero] at h0
  unfold dI; omega
theorem dI_nn (z : Nat → Int32) (a : Nat) : 0 ≤ dI z a a := by
  have h0 := sq_0 (x := (z a).toInt)
  have h1 := sq_0 (x := (z (a + 1)).toInt)
  have h2 := sq_0 (x := (z (a + 2)).toInt)
  have h3 := sq_0 (x := (z (a + 3)).toInt)
  unfold dI; omega
theorem sq_e {x : Int} (h : x * x = 0) : x = 0 := by
  rcases Int.mul_eq_zero.mp h with q | q <;> exact q
theorem dI_z0 {z : Nat → Int32} {a b : Nat} (h : dI z a a = 0) : dI z a b = 0 := by
  have h0 := sq_0 (x := (z a).toInt)
  have h1 := sq_0 (x := (z (a + 1)).toInt)
  have h2 := sq_0 (x := (z (a + 2)).toInt)
  have h3 := sq_0 (x := (z (a + 3)).toInt)
  unfold dI at h ⊢
  have e0 := sq_e (x := (z a).toInt) (by omega)
  have e1 := sq_e (x := (z (a + 1)).toInt) (by omega)
  have e2 := sq_e (x := (z (a + 2)).toInt) (by omega)
  have e3 := sq_e (x := (z (a + 3)).toInt) (by omega)
  rw [e0, e1, e2, e3]; simp
theorem dI_comm (z : Nat → Int32) (a b : Nat) : dI z a b = dI z b a := by
  unfold dI
  rw [Int.mul_comm (z a).toInt, Int.mul_comm (z (a + 1)).toInt, Int.mul_comm (z (a + 2)).toInt, Int.mul_comm (z (a + 3)).toInt]
theorem dotz_comm (z : Nat → Int32) (a b : Nat) : dotz z a b = dotz z b a := by rw [dotz_I, dotz_I, dI_comm]
theorem oI_nI {x : Int} (h : 0 ≤ x) : Int32.ofInt x = nI x.toNat := by
  show _ = Int32.ofNat x.toNat
  rw [← Int32.ofInt_eq_ofNat, Int.toNat_of_nonneg h]
theorem oI_toInt {x : Int} (h : -1000000 ≤ x ∧ x ≤ 1000000) : (Int32.ofInt x).toInt = x := by
  rw [Int32.toInt_ofInt, Int.bmod_def]
  simp only [Int32.size]
  omega
theorem oI_64 {x : Int} (h : -1000000 ≤ x ∧ x ≤ 1000000) : (Int32.ofInt x).toInt64 = Int64.ofInt x := by
  apply Int64.toInt_inj.mp
  rw [Int32.toInt_toInt64, oI_toInt h, Int64.toInt_ofInt, Int.bmod_def]
  simp only [Int64.size]
  omega
theorem sq_64 {x : Int} : Int64.ofInt x * Int64.ofInt x = lN (x.natAbs * x.natAbs) := by
  rw [← Int64.ofInt_mul]
  show _ = Int64.ofNat _
  rw [← Int64.ofInt_eq_ofNat, ← Int.natAbs_mul_self]
def wtz (z : Nat → Int32) (v : Nat) : Nat := (z (2 + v)).toInt.toNat
def Uz (z : Nat → Int32) (v : Nat) : Nat := (dI z (18 + 4 * v) (18 + 4 * v)).toNat
def Sz (z : Nat → Int32) (v : Nat) : Nat := (dI z 50 (18 + 4 * v)).natAbs * (dI z 50 (18 + 4 * v)).natAbs
def Hz (z : Nat → Int32) : Nat := (dI z 50 50).toNat
/-- a row's bounds hold -/
theorem bnH_of {z : Nat → Int32} {n : Nat} (hn : n ≤ 8) (hw : gw z n (wtz z)) (hl : ∀ v, v < n → vb z (18 + 4 * v)) (hh : vb z 50) (hup : upR z n = -1) : bnH z n (wtz z) (Uz z) (Sz z) (Hz z) ∧ hpos n (wtz z) (Uz z) (Hz z) := by
  have hne : ∀ v, v < n → 0 < wtz z v → dI z 50 (18 + 4 * v) ≠ 0 := fun v hv hp q => by
    have h1 := (fiR_m1 (p := upr z) (n := n) (by omega)).mp hup v hv
    unfold upr at h1
    rw [dotz_I, q, (hw v hv).1] at h1
    have h2 : ¬ nI (wtz z v) ≤ 0 := by
      rw [Int32.le_iff_toInt_le, nI_toInt (by have := (hw v hv).2; omega)]
      show ¬ ((wtz z v : Int) ≤ 0)
      omega
    rw [decide_eq_false h2] at h1
    exact absurd h1 (by decide)
  refine ⟨⟨hw, fun v hv => ⟨?_, ?_⟩, fun v hv => ⟨?_, ?_⟩, ?_, ?_, fun v hv hp => ?_⟩, fun v hv hp => ⟨?_, ?_⟩⟩
  · rw [dotz_I, oI_nI (dI_nn _ _)]; rfl
  · have := dI_b (hl v hv) (hl v hv); unfold Uz; omega
  · have := dI_b hh (hl v hv)
    rw [dotz_I, oI_64 (by omega), sq_64]; rfl
  · have h := dI_b hh (hl v hv)
    have : Sz z v ≤ 324 * 324 := Nat.mul_le_mul (by omega) (by omega)
    omega
  · rw [dotz_I, oI_nI (dI_nn _ _)]; rfl
  · have := dI_b hh hh; unfold Hz; omega
  · have := hne v hv hp
    exact Nat.mul_pos (by omega) (by omega)
  · have h1 := hne v hv hp
    have h2 := dI_nn z 50
    unfold Hz
    rcases Int.lt_or_eq_of_le h2 with q | q
    · omega
    · exact absurd (dI_z0 q.symm) h1
  · have h1 := hne v hv hp
    have h2 := dI_nn z (18 + 4 * v)
    unfold Uz
    rcases Int.lt_or_eq_of_le h2 with q | q
    · omega
    · exact absurd ((dI_comm z _ _).trans (dI_z0 q.symm)) h1
/-- the row with a handle of a code -/
theorem hn_vb {z : Nat → Int32} {d c b size : Nat} (hd : d ≤ 4) (hs : size ≤ 2) (hb : 2 * size + 1 = b) (hh : vb z 50) : vb (hnR z d c b size d) 50 := by
  intro p hp
  unfold hnR
  by_cases q : p < d
  · rw [if_pos (by omega)]
    unfold hnD
    have hl : cD c b (d - 1 - (50 + p - 50)) % b < b := Nat.mod_lt _ (by omega)
    generalize cD c b (d - 1 - (50 + p - 50)) % b = x at hl
    have h : ∀ x : Fin 5, ∀ s : Fin 3, -9 ≤ (nI x.val - nI s.val).toInt ∧ (nI x.val - nI s.val).toInt ≤ 9 := by decide +kernel
    exact h ⟨x, by omega⟩ ⟨size, by omega⟩
  · rw [if_neg (by omega)]; exact hh p hp
theorem hn_lo {z : Nat → Int32} {d c b size j : Nat} (hj : j < 50) : hnR z d c b size d j = z j := by
  unfold hnR; rw [if_neg (by omega)]
theorem dI_cg {z y : Nat → Int32} {a b : Nat} (h1 : ∀ p, p < 4 → z (a + p) = y (a + p)) (h2 : ∀ p, p < 4 → z (b + p) = y (b + p)) : dI z a b = dI y a b := by
  have a0 := h1 0 (by decide)
  have b0 := h2 0 (by decide)
  simp only [Nat.add_zero] at a0 b0
  unfold dI
  rw [a0, b0, h1 1 (by decide), h1 2 (by decide), h1 3 (by decide), h2 1 (by decide), h2 2 (by decide), h2 3 (by decide)]
theorem lbHyp_of {z : Nat → Int32} {n d b size : Nat} (hn : n ≤ 8) (hd : d ≤ 4) (hs : size ≤ 2) (hb : 2 * size + 1 = b) (hw : gw z n (wtz z)) (hl : ∀ v, v < n → vb z (18 + 4 * v)) (hh : vb z 50) : lbHyp z n d b size (wtz z) (Uz z) (fun c => Sz (hnR z d c b size d)) (fun c => Hz (hnR z d c b size d)) ∧ ∀ c, c < b ^ d → upR (hnR z d c b size d) n = -1 → hpos n (wtz z) (Uz z) (Hz (hnR z d c b size d)) := by
  have key : ∀ c, upR (hnR z d c b size d) n = -1 → bnH (hnR z d c b size d) n (wtz z) (Uz z) (Sz (hnR z d c b size d)) (Hz (hnR z d c b size d)) ∧ hpos n (wtz z) (Uz z) (Hz (hnR z d c b size d)) := fun c hup => by
    have ew : ∀ v, v < n → wtz (hnR z d c b size d) v = wtz z v := fun v hv => by unfold wtz; rw [hn_lo (by omega)]
    have eU : ∀ v, v < n → Uz (hnR z d c b size d) v = Uz z v := fun v hv => by unfold Uz; rw [dI_cg (y := z) (fun p hp => hn_lo (by omega)) (fun p hp => hn_lo (by omega))]
    obtain ⟨⟨h1, h2, h3, h4, h5, h6⟩, h7⟩ := bnH_of (z := hnR z d c b size d) hn (fun v hv => by rw [hn_lo (by omega), ew v hv]; exact hw v hv) (fun v hv p hp => by rw [hn_lo (by omega)]; exact hl v hv p hp) (hn_vb hd hs hb hh) hup
    refine ⟨⟨fun v hv => ?_, fun v hv => ?_, h3, h4, h5, fun v hv hp => h6 v hv (by rw [ew v hv]; exact hp)⟩, fun v hv hp => ?_⟩
    · rw [← ew v hv]; exact h1 v hv
    · rw [← eU v hv]; exact h2 v hv
    · rw [← eU v hv]; exact h7 v hv (by rw [ew v hv]; exact hp)
  exact ⟨fun c _ hup => (key c hup).1, fun c _ hup => (key c hup).2⟩
