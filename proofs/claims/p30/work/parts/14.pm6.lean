/-! ===== the reference's bound (written by wip/whole/gen/model6.py) ===== -/
theorem lgcN_eq {a b : Nat} (ha : a < 2 ^ 63) (hb : b < 2 ^ 63) : (lg_cmp (lN a) (lN b) = 0) = (a = b) := by
  rw [lgc_eq, pk_lEQ ha hb]
theorem lg_cases (x y : Int64) : (y < x ∧ lg_cmp x y = 1) ∨ (x = y ∧ lg_cmp x y = 0) ∨ (¬ y < x ∧ ¬ x = y ∧ lg_cmp x y = -1) := by
  unfold lg_cmp
  by_cases h1 : y < x
  · exact Or.inl ⟨h1, if_pos h1⟩
  · by_cases h2 : x = y
    · exact Or.inr (Or.inl ⟨h2, by rw [if_neg h1, if_pos h2]⟩)
    · exact Or.inr (Or.inr ⟨h1, h2, by rw [if_neg h1, if_neg h2]⟩)
theorem lgcN_le {a b : Nat} (ha : a < 2 ^ 63) (hb : b < 2 ^ 63) : (lg_cmp (lN a) (lN b) ≤ 0) = (a ≤ b) := by
  have h1 := pk_lLT hb ha
  have h2 := pk_lEQ ha hb
  apply propext
  rcases lg_cases (lN a) (lN b) with ⟨q, e⟩ | ⟨q, e⟩ | ⟨q, q2, e⟩
  · rw [e, h1] at *
    constructor
    · intro h; exact absurd h (by decide)
    · intro h; omega
  · rw [e]; rw [h2] at q
    constructor
    · intro _; omega
    · intro _; decide
  · rw [e]; rw [h1] at q; rw [h2] at q2
    constructor
    · intro _; omega
    · intro _; decide
theorem lgcN_ge {a b : Nat} (ha : a < 2 ^ 63) (hb : b < 2 ^ 63) : (0 ≤ lg_cmp (lN a) (lN b)) = (b ≤ a) := by
  have h1 := pk_lLT hb ha
  have h2 := pk_lEQ ha hb
  apply propext
  rcases lg_cases (lN a) (lN b) with ⟨q, e⟩ | ⟨q, e⟩ | ⟨q, q2, e⟩
  · rw [e]; rw [h1] at q
    constructor
    · intro _; omega
    · intro _; decide
  · rw [e]; rw [h2] at q
    constructor
    · intro _; omega
    · intro _; decide
  · rw [e]; rw [h1] at q; rw [h2] at q2
    constructor
    · intro h; exact absurd h (by decide)
    · intro h; omega
theorem lgcN_ne {a b : Nat} (ha : a < 2 ^ 63) (hb : b < 2 ^ 63) : (lg_cmp (lN a) (lN b) = 0) = (a = b) := lgcN_eq ha hb
theorem cm_fin {x y a b : Nat} (h : y ≤ 0) (hg : Nat.gcd x y = Nat.gcd a b) : x = Nat.gcd a b := by
  have e : y = 0 := by omega
  subst e; rw [← hg, Nat.gcd_zero_right]
def tel (t : Nat) : Int32 := if t = 0 then -1 else nI (t - 1)
theorem tel_s (v : Nat) : nI v = tel (v + 1) := rfl
theorem tel_0 {t : Nat} (h : t ≤ 8) : tel t = -1 ↔ t = 0 := by
  have : ∀ t : Fin 9, tel t.val = -1 ↔ t.val = 0 := by decide +kernel
  exact this ⟨t, by omega⟩
/-- the greatest fraction among the first vertices, as it is found: above, below, the vertex and 1 -/
def bnS (wt U S : Nat → Nat) (H : Nat) : Nat → Nat × Nat × Nat
  | 0 => (0, 1, 0)
  | v + 1 => if 0 < wt v ∧ ((bnS wt U S H v).2.2 = 0 ∨ (bnS wt U S H v).1 * S v < wt v * H * U v * (bnS wt U S H v).2.1) then (wt v * H * U v, S v, v + 1) else bnS wt U S H v
/-- what the numbers of a graph with its handle are in bounds -/
def bnH (z : Nat → Int32) (n : Nat) (wt U S : Nat → Nat) (H : Nat) : Prop :=
  (∀ v, v < n → z (2 + v) = nI (wt v) ∧ wt v ≤ 9) ∧ (∀ v, v < n → dotz z (18 + 4 * v) (18 + 4 * v) = nI (U v) ∧ U v ≤ 400) ∧ (∀ v, v < n → (dotz z 50 (18 + 4 * v)).toInt64 * (dotz z 50 (18 + 4 * v)).toInt64 = lN (S v) ∧ S v ≤ 200000) ∧ dotz z 50 50 = nI H ∧ H ≤ 400 ∧ (∀ v, v < n → 0 < wt v → 0 < S v)
theorem bnS_le {z : Nat → Int32} {n : Nat} {wt U S : Nat → Nat} {H : Nat} (h : bnH z n wt U S H) : ∀ k, k ≤ n → (bnS wt U S H k).1 ≤ 1440000 ∧ 0 < (bnS wt U S H k).2.1 ∧ (bnS wt U S H k).2.1 ≤ 200000 ∧ (bnS wt U S H k).2.2 ≤ k
  | 0, _ => show (0 : Nat) ≤ 1440000 ∧ 0 < 1 ∧ 1 ≤ 200000 ∧ 0 ≤ 0 from by decide
  | k + 1, hk => by
    have ih := bnS_le h k (by omega)
    unfold bnS
    split
    · rename_i q
      have a1 := (h.1 k (by omega)).2
      have a2 := (h.2.1 k (by omega)).2
      have a3 := (h.2.2.1 k (by omega)).2
      have a4 := h.2.2.2.2.1
      have a5 := h.2.2.2.2.2 k (by omega) q.1
      have m1 : wt k * H ≤ 9 * 400 := Nat.mul_le_mul a1 a4
      have m2 : wt k * H * U k ≤ 9 * 400 * 400 := Nat.mul_le_mul m1 a2
      exact ⟨by omega, a5, a3, Nat.le_refl _⟩
    · exact ⟨ih.1, ih.2.1, ih.2.2.1, by omega⟩
def setB (M : Mm) (a b : Int64) (t : Int32) : Mm := mI (mJ (mJ M 135 8 a) 135 9 b) 135 10 t
theorem setB_1 {M : Mm} {a b : Int64} {t : Int32} {j : Nat} (h : j ≠ 135) : (setB M a b t).1 j = M.1 j := by
  unfold setB mI mJ; dsimp only; rw [if_neg h]
theorem setB_ss (M : Mm) (a b a' b' : Int64) (t t' : Int32) : mI (mJ (mJ (setB M a b t) 135 8 a') 135 9 b') 135 10 t' = setB M a' b' t' := by
  refine mx (fun j => ?_) (fun j => ?_)
  · unfold setB mI mJ; dsimp only
    by_cases e : j = 135
    · subst e; rw [if_pos rfl, if_pos rfl, if_pos rfl]; funext k; simp only [upd]; split <;> rfl
    · rw [if_neg e, if_neg e, if_neg e]
  · unfold setB mI mJ; dsimp only
    by_cases e : j = 135
    · subst e; rw [if_pos rfl, if_pos rfl, if_pos rfl]; funext k; simp only [vp_updL, if_true]; repeat' split
      all_goals first | rfl | (exfalso; omega)
    · rw [if_neg e, if_neg e, if_neg e]; simp [e]
theorem setB_dd (M : Mm) (a b a' b' : Int64) (t : Int32) : mJ (mJ (setB M a b t) 135 8 a') 135 9 b' = setB M a' b' t := by
  refine mx (fun j => rfl) (fun j => ?_)
  unfold setB mI mJ; dsimp only
  by_cases e : j = 135
  · subst e; rw [if_pos rfl, if_pos rfl, if_pos rfl]; funext k; simp only [vp_updL, if_true]; repeat' split
    all_goals first | rfl | (exfalso; omega)
  · rw [if_neg e, if_neg e, if_neg e]; simp [e]
def bnA (wt U S : Nat → Nat) (H n : Nat) : Nat := (bnS wt U S H n).1 / Nat.gcd (bnS wt U S H n).1 (bnS wt U S H n).2.1
def bnB (wt U S : Nat → Nat) (H n : Nat) : Nat := (bnS wt U S H n).2.1 / Nat.gcd (bnS wt U S H n).1 (bnS wt U S H n).2.1
def bnT (wt U S : Nat → Nat) (H n : Nat) : Int32 := tel (bnS wt U S H n).2.2
def layM (M : Mm) (wt U S : Nat → Nat) (H n : Nat) : Mm := setB M (lN (bnA wt U S H n)) (lN (bnB wt U S H n)) (bnT wt U S H n)
