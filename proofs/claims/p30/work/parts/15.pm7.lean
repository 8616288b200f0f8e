/-! ===== the reference's handles (written by wip/whole/gen/model7.py) ===== -/
def cD (code b t : Nat) : Nat := code / b ^ t
theorem cD_0 (code b : Nat) : cD code b 0 = code := by unfold cD; rw [Nat.pow_zero, Nat.div_one]
theorem cD_s (code b t : Nat) : cD code b t / b = cD code b (t + 1) := by unfold cD; rw [Nat.pow_succ, Nat.div_div_eq_div_mul]
theorem cD_le (code b t : Nat) : cD code b t ≤ code := Nat.div_le_self _ _
/-- the number at a place of the handle that has this code -/
def hnD (d code b size p : Nat) : Int32 := nI (cD code b (d - 1 - p) % b) - nI size
def hnR (z : Nat → Int32) (d code b size t : Nat) : Nat → Int32 := fun j => if 50 + (d - t) ≤ j ∧ j < 50 + d then hnD d code b size (j - 50) else z j
theorem hnR_0 (z : Nat → Int32) (d code b size : Nat) : hnR z d code b size 0 = z := by funext j; unfold hnR; rw [if_neg (by omega)]
theorem hnR_s {z : Nat → Int32} {d code b size t : Nat} (h : t < d) : upd (hnR z d code b size t) (50 + (d - t - 1)) (nI (cD code b t % b) - nI size) = hnR z d code b size (t + 1) := by
  funext j; simp only [hnR, upd]
  by_cases e : j = 50 + (d - t - 1)
  · rw [if_pos e, if_pos (by omega)]
    unfold hnD
    have : d - 1 - (j - 50) = t := by omega
    rw [this]
  · rw [if_neg e]
    by_cases q : 50 + (d - t) ≤ j ∧ j < 50 + d
    · rw [if_pos q, if_pos (by omega)]
    · rw [if_neg q, if_neg (by omega)]
theorem plt0 {a : Nat} (h : a ≤ 4) : nI a - nI 1 < 0 ↔ a = 0 := by
  have : ∀ a : Fin 5, nI a.val - nI 1 < 0 ↔ a.val = 0 := by decide +kernel
  exact this ⟨a, by omega⟩
theorem pls {a : Nat} (h : a ≤ 4) (h0 : 0 < a) : nI a - nI 1 + Int32.ofInt (-1) = nI (a - 1) - nI 1 := by
  have : ∀ a : Fin 5, 0 < a.val → nI a.val - nI 1 + Int32.ofInt (-1) = nI (a.val - 1) - nI 1 := by decide +kernel
  exact this ⟨a, by omega⟩ h0
