/-! ===== the reference's changes (written by wip/whole/gen/model3.py) ===== -/
theorem mx {M M' : Mm} (h1 : ∀ i, M.1 i = M'.1 i) (h2 : ∀ i, M.2 i = M'.2 i) : M = M' := Prod.ext (funext h1) (funext h2)
theorem mA_id {M : Mm} {i : Nat} {f : Nat → Int32} (h : f = M.1 i) : M = mA M i f := mx (fun j => by unfold mA; dsimp only; split <;> simp_all) (fun _ => rfl)
theorem mI_A (M : Mm) (i k : Nat) (v : Int32) : mI M i k v = mA M i (upd (M.1 i) k v) := mx (fun j => by unfold mA mI; dsimp only; split <;> simp_all) (fun _ => rfl)
theorem mIA (M : Mm) (i k : Nat) (v : Int32) (f : Nat → Int32) : mI (mA M i f) i k v = mA M i (upd f k v) := mx (fun j => by unfold mA mI; dsimp only; split <;> simp_all) (fun _ => rfl)
theorem mAA (M : Mm) (i : Nat) (f g : Nat → Int32) : mA (mA M i f) i g = mA M i g := mx (fun j => by unfold mA; dsimp only; split <;> simp_all) (fun _ => rfl)
theorem mII (M : Mm) (i k : Nat) (v w : Int32) : mI (mI M i k v) i k w = mI M i k w := mx (fun j => by unfold mI; dsimp only; split <;> first | (rename_i h; subst h; funext a; simp [upd]; intros; simp_all) | simp_all) (fun _ => rfl)
theorem mAI (M : Mm) {i j k : Nat} (v : Int32) (f : Nat → Int32) (h : i ≠ j) : mI (mA M i f) j k v = mA (mI M j k v) i f := mx (fun a => by unfold mA mI; dsimp only; by_cases e1 : a = i <;> by_cases e2 : a = j <;> simp_all) (fun _ => rfl)
theorem wit_iff {a lo hi : Nat} (ha : a < 2 ^ 31) (hlo : lo < 2 ^ 31) (hhi : hi < 2 ^ 31) : wit (nI a) (nI lo) (nI hi) = true ↔ lo ≤ a ∧ a ≤ hi := by
  unfold wit
  rw [Bool.and_eq_true, Bool.not_eq_true', Bool.not_eq_true', decide_eq_false_iff_not, decide_eq_false_iff_not, nI_ltI ha hlo, nI_ltI hhi ha]
  omega
theorem wit_n {a n : Nat} (h : a < n) (hn : n ≤ 60) : wit (nI a) (nI 0) (nI n - nI 1) = true := by
  rw [pk_sub (by omega)]
  exact (wit_iff (by omega) (by omega) (by omega)).mpr ⟨by omega, by omega⟩
/-- a row with its cells from 55 on moved to the front, below k -/
def shf (h : Nat → Int32) (k : Nat) : Nat → Int32 := fun j => if j + 55 < k then h (j + 55) else h j
theorem shf_0 (h : Nat → Int32) : shf h 55 = h := by
  funext j; unfold shf; rw [if_neg (by omega)]
theorem shf_s {h : Nat → Int32} {k : Nat} (hk : 55 ≤ k) : upd (shf h k) (k - 55) (h k) = shf h (k + 1) := by
  funext j; simp only [shf, upd]; repeat' split
  all_goals first | rfl | (exfalso; omega) | (subst_vars; congr 1; omega) | (congr 1; omega) | (congr 1 <;> omega)
theorem cpy_0 (f g : Nat → Int32) (a d : Nat) : va_cpy f g a d 0 = g := by
  funext j; unfold va_cpy; rw [if_neg (by omega)]
theorem cpy_s (f g : Nat → Int32) (d k : Nat) : upd (va_cpy f g 0 d k) (d + k) (f k) = va_cpy f g 0 d (k + 1) := by
  funext j; simp only [va_cpy, upd]; repeat' split
  all_goals first | rfl | (exfalso; omega) | (subst_vars; congr 1; omega) | (congr 1; omega) | (congr 1 <;> omega)
def svN (s : Nat) : Nat := if s = 6 then 5 else s
def svH (h z : Nat → Int32) (s : Nat) : Nat → Int32 := va_cpy z (if s = 6 then shf h 330 else h) 0 (55 * svN s) 55
def saveM (M : Mm) (s : Nat) : Mm := mA (mI M 135 1 (nI (svN s + 1))) 137 (svH (M.1 137) (M.1 136) s)
/-- the row of an empty graph -/
def emR (z : Nat → Int32) (a b : Nat) : Nat → Int32 := fun j => if j = 0 then nI a else if j = 1 then nI b else if 2 ≤ j ∧ j < 2 + a then nI 1 else if j < 54 then nI 0 else z j
def emA (z : Nat → Int32) (k : Nat) : Nat → Int32 := fun j => if j < k then nI 0 else z j
def emB (z : Nat → Int32) (a b k : Nat) : Nat → Int32 := fun j => if j = 0 then nI a else if j = 1 then nI b else if 2 ≤ j ∧ j < 2 + k then nI 1 else if j < 54 then nI 0 else z j
theorem emA_0 (z : Nat → Int32) : emA z 0 = z := by funext j; unfold emA; rw [if_neg (by omega)]
theorem emA_s (z : Nat → Int32) (k : Nat) : upd (emA z k) k (nI 0) = emA z (k + 1) := by
  funext j; simp only [emA, upd]; repeat' split
  all_goals first | rfl | (exfalso; omega) | (subst_vars; congr 1; omega) | (congr 1; omega) | (congr 1 <;> omega)
theorem emB_0 (z : Nat → Int32) (a b : Nat) : upd (upd (emA z 54) 0 (nI a)) 1 (nI b) = emB z a b 0 := by
  funext j; simp only [emA, emB, upd]; repeat' split
  all_goals first | rfl | (exfalso; omega) | (subst_vars; congr 1; omega) | (congr 1; omega) | (congr 1 <;> omega)
theorem emB_s (z : Nat → Int32) (a b k : Nat) : upd (emB z a b k) (2 + k) (nI 1) = emB z a b (k + 1) := by
  funext j; simp only [emB, upd]; repeat' split
  all_goals first | rfl | (exfalso; omega) | (subst_vars; congr 1; omega) | (congr 1; omega) | (congr 1 <;> omega)
def jb (x : Int32) (b : Nat) (i : Bool) : Int32 := (x &&& ntI (s1 b)) ||| (if i = true then s1 b else nI 0)
def joR (z : Nat → Int32) (a b : Nat) (i : Bool) : Nat → Int32 := upd (upd z (10 + a) (jb (z (10 + a)) b i)) (10 + b) (jb (z (10 + b)) a i)
def cv (n v : Nat) (x : Int32) : Int32 := ((s1 n - nI 1) &&& ntI x) &&& ntI (s1 v)
def cpl (z : Nat → Int32) (n k : Nat) : Nat → Int32 := fun j => if 10 ≤ j ∧ j < 10 + k then cv n (j - 10) (z j) else z j
theorem cpl_0 (z : Nat → Int32) (n : Nat) : cpl z n 0 = z := by funext j; unfold cpl; rw [if_neg (by omega)]
theorem cpl_s (z : Nat → Int32) (n k : Nat) : upd (cpl z n k) (10 + k) (cv n k (z (10 + k))) = cpl z n (k + 1) := by
  funext j; simp only [cpl, upd]; repeat' split
  all_goals first | rfl | (exfalso; omega) | (subst_vars; congr 1; omega) | (congr 1; omega) | (congr 1 <;> omega)
theorem cpl_at (z : Nat → Int32) (n k : Nat) : cpl z n k (10 + k) = z (10 + k) := by unfold cpl; rw [if_neg (by omega)]
def wo (x : Int32) (k : Nat) : Int32 := (x &&& (s1 k - nI 1)) ||| ((x >>> (nI (k + 1) &&& 31)) <<< (nI k &&& 31))
