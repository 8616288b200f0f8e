/-! ===== the reference's texts, snapshots, products (written by wip/whole/gen/model5.py) ===== -/
theorem inc_3 (j : Nat) : nI (3 * j) + Int32.ofInt 3 = nI (3 * (j + 1)) := inc_n (3 * j) 3
/-- one row of a product's vertices: the mask of the vertex k below i -/
def pjB (z y : Nat → Int32) (n2 k i : Nat) : Bool := bt (z (10 + (k / n2))) (i / n2) || bt (y (10 + k % n2)) (i % n2)
def pmI (z y : Nat → Int32) (n2 k : Nat) : Nat → Int32
  | 0 => nI 0
  | i + 1 => pmI z y n2 k i ||| (if pjB z y n2 k i = true then s1 i else nI 0)
def pwI (z y : Nat → Int32) (n2 k : Nat) : Int32 := z (2 + (k / n2)) * y (2 + k % n2)
def plI (z y : Nat → Int32) (n2 d2 k p : Nat) : Int32 := z (18 + 4 * (k / n2) + (p / d2)) * y (18 + 4 * (k % n2) + p % d2)
def phI (z y : Nat → Int32) (d2 p : Nat) : Int32 := z (50 + (p / d2)) * y (50 + p % d2)
def wpB (z y : Nat → Int32) (n2 : Nat) : Nat → Bool
  | 0 => true
  | k + 1 => wpB z y n2 k && !decide (nI 9 < pwI z y n2 k)
def fpB (z y : Nat → Int32) (n2 d2 k : Nat) (b : Bool) : Nat → Bool
  | 0 => b
  | p + 1 => fpB z y n2 d2 k b p && wit (plI z y n2 d2 k p) (-9) (nI 9)
def fkB (z y : Nat → Int32) (n2 d2 dd : Nat) : Nat → Bool
  | 0 => true
  | k + 1 => fpB z y n2 d2 k (fkB z y n2 d2 dd k) dd
def fhB (z y : Nat → Int32) (d2 : Nat) (b : Bool) : Nat → Bool
  | 0 => b
  | p + 1 => fhB z y d2 b p && wit (phI z y d2 p) (-9) (nI 9)
/-- the product's row while it is laid: kw weights, kn masks (and ki bits of the next), kl labels (and kp numbers of the next), kh numbers of the handle -/
def mdG (b z y : Nat → Int32) (N dd n2 d2 kw kn ki kl kp kh : Nat) : Nat → Int32 := fun j =>
  if j = 0 then nI N else if j = 1 then nI dd
  else if 2 ≤ j ∧ j < 2 + kw then pwI z y n2 (j - 2)
  else if 10 ≤ j ∧ j < 10 + kn then pmI z y n2 (j - 10) N
  else if j = 10 + kn ∧ 0 < ki then pmI z y n2 (j - 10) ki
  else if 18 ≤ j ∧ j < 50 ∧ (((j - 18) / 4 < kl ∧ (j - 18) % 4 < dd) ∨ ((j - 18) / 4 = kl ∧ (j - 18) % 4 < kp)) then plI z y n2 d2 ((j - 18) / 4) ((j - 18) % 4)
  else if 50 ≤ j ∧ j < 50 + kh then phI z y d2 (j - 50)
  else b j
section MDG
variable {b z y : Nat → Int32} {N dd n2 d2 : Nat}
theorem mdG_0 : upd (upd b 0 (nI N)) 1 (nI dd) = mdG b z y N dd n2 d2 0 0 0 0 0 0 := by
  funext j; simp only [mdG, upd]; repeat' split
  all_goals first | rfl | (exfalso; omega)
theorem mdG_w {k : Nat} (hk : k < 8) : upd (mdG b z y N dd n2 d2 k k 0 k 0 0) (2 + k) (pwI z y n2 k) = mdG b z y N dd n2 d2 (k + 1) k 0 k 0 0 := by
  funext j; simp only [mdG, upd]; repeat' split
  all_goals first | rfl | (exfalso; omega) | (subst_vars; congr 1; omega)
theorem mdG_at {k i : Nat} (hb : ∀ j, j < 55 → b j = nI 0) (hk : k < 8) : mdG b z y N dd n2 d2 (k + 1) k i k 0 0 (10 + k) = pmI z y n2 k i := by
  unfold mdG
  rw [if_neg (by omega), if_neg (by omega), if_neg (by omega), if_neg (by omega)]
  have e : 10 + k - 10 = k := by omega
  cases i with
  | zero => rw [if_neg (by omega), if_neg (by omega), if_neg (by omega), hb _ (by omega)]; rfl
  | succ i => rw [if_pos (by omega), e]
theorem mdG_n {k i : Nat} (hk : k < 8) : upd (mdG b z y N dd n2 d2 (k + 1) k i k 0 0) (10 + k) (pmI z y n2 k (i + 1)) = mdG b z y N dd n2 d2 (k + 1) k (i + 1) k 0 0 := by
  funext j; simp only [mdG, upd]; repeat' split
  all_goals first | rfl | (exfalso; omega) | (subst_vars; congr 1; omega)
theorem mdG_N {k : Nat} (hk : k < 8) (hN : 0 < N) : mdG b z y N dd n2 d2 (k + 1) k N k 0 0 = mdG b z y N dd n2 d2 (k + 1) (k + 1) 0 k 0 0 := by
  funext j; simp only [mdG]; repeat' split
  all_goals first | rfl | (exfalso; omega)
theorem mdG_l {k p : Nat} (hk : k < 8) (hp : p < 4) : upd (mdG b z y N dd n2 d2 (k + 1) (k + 1) 0 k p 0) (18 + 4 * k + p) (plI z y n2 d2 k p) = mdG b z y N dd n2 d2 (k + 1) (k + 1) 0 k (p + 1) 0 := by
  funext j; simp only [mdG, upd]; repeat' split
  all_goals first | rfl | (exfalso; omega) | (subst_vars; congr 1 <;> omega)
theorem mdG_L {k : Nat} (hd : dd ≤ 4) : mdG b z y N dd n2 d2 (k + 1) (k + 1) 0 k dd 0 = mdG b z y N dd n2 d2 (k + 1) (k + 1) 0 (k + 1) 0 0 := by
  funext j; simp only [mdG]; repeat' split
  all_goals first | rfl | (exfalso; omega)
theorem mdG_h {k p : Nat} (hk : k ≤ 8) (hp : p < 4) : upd (mdG b z y N dd n2 d2 k k 0 k 0 p) (50 + p) (phI z y d2 p) = mdG b z y N dd n2 d2 k k 0 k 0 (p + 1) := by
  funext j; simp only [mdG, upd]; repeat' split
  all_goals first | rfl | (exfalso; omega) | (subst_vars; congr 1; omega)
theorem mdG_wat {k : Nat} : mdG b z y N dd n2 d2 (k + 1) k 0 k 0 0 (2 + k) = pwI z y n2 k := by
  unfold mdG; rw [if_neg (by omega), if_neg (by omega), if_pos (by omega)]; congr 1; omega
theorem mdG_hat {k p : Nat} (hk : k ≤ 8) (hp : p < 4) : mdG b z y N dd n2 d2 k k 0 k 0 (p + 1) (50 + p) = phI z y d2 p := by
  unfold mdG; rw [if_neg (by omega), if_neg (by omega), if_neg (by omega), if_neg (by omega), if_neg (by omega), if_neg (by omega), if_pos (by omega)]; congr 1; omega
end MDG
def emZ (b : Nat → Int32) : Nat → Int32 := emA b 55
theorem emZ_z {b : Nat → Int32} : ∀ j, j < 55 → emZ b j = nI 0 := fun j h => by unfold emZ emA; rw [if_pos h]
/-- the whole product's row -/
def mdR (b z y : Nat → Int32) (N dd n2 d2 : Nat) : Nat → Int32 := mdG (emZ b) z y N dd n2 d2 N N 0 N 0 dd
def lpr (z y : Nat → Int32) (N dd n2 d2 : Nat) : Int32 := if wpB z y n2 N = true then (if fhB z y d2 (fkB z y n2 d2 dd N) dd = true then nI 0 else nI 4) else nI 3
