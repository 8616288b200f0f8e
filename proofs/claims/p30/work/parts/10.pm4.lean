/-! ===== the reference's changes, on (written by wip/whole/gen/model4.py) ===== -/
def cbA (z : Nat → Int32) (n k : Nat) : Nat → Int32 := fun j => if (2 + n ≤ j ∧ j < 2 + k) ∨ (10 + n ≤ j ∧ j < 10 + k) ∨ (18 + 4 * n ≤ j ∧ j < 18 + 4 * k) then nI 0 else z j
def cbB (z : Nat → Int32) (n k p : Nat) : Nat → Int32 := fun j => if (2 + n ≤ j ∧ j < 2 + (k + 1)) ∨ (10 + n ≤ j ∧ j < 10 + (k + 1)) ∨ (18 + 4 * n ≤ j ∧ j < 18 + 4 * k + p) then nI 0 else z j
theorem cbA_0 (z : Nat → Int32) (n : Nat) : cbA z n n = z := by funext j; unfold cbA; rw [if_neg (by omega)]
theorem cbB_0 {z : Nat → Int32} {n k : Nat} (h : n ≤ k) (hk : k < 8) : upd (upd (cbA z n k) (2 + k) (nI 0)) (10 + k) (nI 0) = cbB z n k 0 := by
  funext j; simp only [cbA, cbB, upd]; repeat' split
  all_goals first | rfl | (exfalso; omega)
theorem cbB_s {z : Nat → Int32} {n k p : Nat} (h : n ≤ k) (hk : k < 8) (hp : p < 4) : upd (cbB z n k p) (18 + 4 * k + p) (nI 0) = cbB z n k (p + 1) := by
  funext j; simp only [cbB, upd]; repeat' split
  all_goals first | rfl | (exfalso; omega)
theorem cbB_4 {z : Nat → Int32} {n k : Nat} : cbB z n k 4 = cbA z n (k + 1) := by
  funext j; simp only [cbA, cbB]; repeat' split
  all_goals first | rfl | (exfalso; omega)
/-- the row with the vertices v .. k - 1 moved down by one, and one vertex less -/
def rmA (z : Nat → Int32) (n v k : Nat) : Nat → Int32 := fun j => if j = 0 then nI (n - 1) else if (2 + v ≤ j ∧ j < 2 + k) ∨ (10 + v ≤ j ∧ j < 10 + k) then z (j + 1) else if 18 + 4 * v ≤ j ∧ j < 18 + 4 * k then z (j + 4) else z j
def rmB (z : Nat → Int32) (n v k p : Nat) : Nat → Int32 := fun j => if j = 0 then nI (n - 1) else if (2 + v ≤ j ∧ j < 2 + (k + 1)) ∨ (10 + v ≤ j ∧ j < 10 + (k + 1)) then z (j + 1) else if 18 + 4 * v ≤ j ∧ j < 18 + 4 * k + p then z (j + 4) else z j
theorem rmA_0 (z : Nat → Int32) (n v : Nat) : upd z 0 (nI (n - 1)) = rmA z n v v := by
  funext j; simp only [rmA, upd]; repeat' split
  all_goals first | rfl | (exfalso; omega)
theorem rmB_0 {z : Nat → Int32} {n v k : Nat} (h : v ≤ k) (hk : k < 7) : upd (upd (rmA z n v k) (2 + k) (z (2 + k + 1))) (10 + k) (z (10 + k + 1)) = rmB z n v k 0 := by
  funext j; simp only [rmA, rmB, upd]; repeat' split
  all_goals first | rfl | (exfalso; omega) | (subst_vars; congr 1; done) | (congr 1; omega)
theorem rmB_s {z : Nat → Int32} {n v k p : Nat} (h : v ≤ k) (hk : k < 7) (hp : p < 4) : upd (rmB z n v k p) (18 + 4 * k + p) (z (18 + 4 * (k + 1) + p)) = rmB z n v k (p + 1) := by
  funext j; simp only [rmB, upd]; repeat' split
  all_goals first | rfl | (exfalso; omega) | (congr 1; omega)
theorem rmB_4 {z : Nat → Int32} {n v k : Nat} : rmB z n v k 4 = rmA z n v (k + 1) := by
  funext j; simp only [rmA, rmB]; repeat' split
  all_goals first | rfl | (exfalso; omega)
/-- .. with the vertex v taken out of the first k masks -/
def rmC (z : Nat → Int32) (v k : Nat) : Nat → Int32 := fun j => if 10 ≤ j ∧ j < 10 + k then wo (z j) v else z j
theorem rmC_0 (z : Nat → Int32) (v : Nat) : rmC z v 0 = z := by funext j; unfold rmC; rw [if_neg (by omega)]
theorem rmC_s (z : Nat → Int32) (v k : Nat) : upd (rmC z v k) (10 + k) (wo (z (10 + k)) v) = rmC z v (k + 1) := by
  funext j; simp only [rmC, upd]; repeat' split
  all_goals first | rfl | (exfalso; omega) | (subst_vars; rfl)
/-- the row after a removal -/
def rmR (z : Nat → Int32) (n v : Nat) : Nat → Int32 := cbA (rmC (rmA z n v (n - 1)) v (n - 1)) (n - 1) 8
theorem rmA_w {z : Nat → Int32} {n v k : Nat} (hk : k < 7) : rmA z n v k (2 + k + 1) = z (2 + k + 1) := by
  unfold rmA; rw [if_neg (by omega), if_neg (by omega), if_neg (by omega)]
theorem rmA_b {z : Nat → Int32} {n v k : Nat} (hk : k < 7) : rmA z n v k (10 + k + 1) = z (10 + k + 1) := by
  unfold rmA; rw [if_neg (by omega), if_neg (by omega), if_neg (by omega)]
theorem rmB_l {z : Nat → Int32} {n v k p : Nat} (hk : k < 7) (hp : p < 4) : rmB z n v k p (18 + 4 * (k + 1) + p) = z (18 + 4 * (k + 1) + p) := by
  unfold rmB; rw [if_neg (by omega), if_neg (by omega), if_neg (by omega)]
theorem rmC_at0 {z : Nat → Int32} {v k : Nat} : rmC z v k 0 = z 0 := by
  unfold rmC; rw [if_neg (by omega)]
theorem rmC_at {z : Nat → Int32} {v k : Nat} : rmC z v k (10 + k) = z (10 + k) := by
  unfold rmC; rw [if_neg (by omega)]
theorem cbA_at0 {z : Nat → Int32} {n k : Nat} : cbA z n k 0 = z 0 := by
  unfold cbA; rw [if_neg (by omega)]
theorem rmA_00 (z : Nat → Int32) (n v k : Nat) : rmA z n v k 0 = nI (n - 1) := rfl
def csz (t : Nat → Int32) (n k : Nat) : Bool := if k % 3 = 0 then wit (t k - nI 48) (nI 0) (nI n - nI 2) else if k % 3 = 1 then wit (t k - nI 48) ((t (k - 1) - nI 48) + nI 1) (nI n - nI 1) else decide (t k = nI 44)
def rut (t : Nat → Int32) (n len : Nat) : Nat := fi (fun k => !csz t n k) len
def rdR (z : Nat → Int32) (da db : Nat → Nat) : Nat → Nat → Int32
  | 0 => z
  | j + 1 => joR (rdR z da db j) (da j) (db j) true
theorem rdR_n {z : Nat → Int32} {da db : Nat → Nat} : ∀ j, rdR z da db j 0 = z 0
  | 0 => rfl
  | j + 1 => by
    show joR (rdR z da db j) (da j) (db j) true 0 = z 0
    unfold joR upd
    rw [if_neg (by omega), if_neg (by omega)]
    exact rdR_n j
/-- a row overwritten below k by the part of another one that begins at d -/
def ovR (z h : Nat → Int32) (d k : Nat) : Nat → Int32 := fun j => if j < k then h (d + j) else z j
theorem ovR_0 (z h : Nat → Int32) (d : Nat) : ovR z h d 0 = z := by funext j; unfold ovR; rw [if_neg (by omega)]
theorem ovR_s (z h : Nat → Int32) (d k : Nat) : upd (ovR z h d k) k (h (d + k)) = ovR z h d (k + 1) := by
  funext j; simp only [ovR, upd]; repeat' split
  all_goals first | rfl | (exfalso; omega) | (subst_vars; rfl)
