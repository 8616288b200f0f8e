/-! ===== the reference's looks that search (written by wip/whole/gen/model10.py) ===== -/
theorem SC.col (M : Mm) (c : Nat → Int32) : SC M (mA M 141 c) := ⟨fun i _ e2 _ _ _ => mA_ne _ e2, fun k _ => by rw [mA_ne _ (by decide)], fun i _ => rfl, rfl⟩
theorem SC.lay (M : Mm) (wt U S : Nat → Nat) (H n : Nat) : SC M (layM M wt U S H n) := by
  refine ⟨fun i e1 _ _ _ _ => setB_1 e1, fun k hk => ?_, fun i hi => ?_, rfl⟩
  · show upd (M.1 135) 10 _ k = _
    exact upd_n _ _ hk
  · unfold layM setB; rw [mI_2, mJ_ne _ hi, mJ_ne _ hi]
theorem rsz_c (z : Nat → Int32) (n : Nat) : rsz z n = nI 0 ∨ rsz z n = nI 1 ∨ rsz z n = nI 2 := by
  unfold rsz; split
  · split
    · exact Or.inl rfl
    · exact Or.inr (Or.inr rfl)
  · exact Or.inr (Or.inl rfl)
theorem rsz_0 {z : Nat → Int32} {n : Nat} : rsz z n ≤ 0 ↔ rsz z n = nI 0 := by
  rcases rsz_c z n with h | h | h <;> rw [h] <;> decide
def vnz (z : Nat → Int32) (n v w : Nat) : Int32 := if w = 0 then z (2 + v) else if w = 1 then on8 (z (10 + v)) else if w = 2 then dotz z (18 + 4 * v) (18 + 4 * v) else if w = 3 then dotz z 50 (18 + 4 * v) else if w = 4 then crs z n v else if w = 5 then wz z n (hvz z n (s1 v)) else z (18 + 4 * v + w - 10)
def bdz (z : Nat → Int32) (n : Nat) (wt U S : Nat → Nat) (H p : Nat) : Int64 := if rsz z n = nI 0 then (if p = 0 then lN (bnA wt U S H n) else if p = 1 then lN (bnB wt U S H n) else (bnT wt U S H n).toInt64) else -1
def rnz (z : Nat → Int32) (n w : Nat) : Int32 := if w = 0 then rsz z n else if mfR z n = -1 then (if w = 1 then upR z n else -1) else if w = 1 then mfR z n / nI 8 else mfR z n - mfR z n / nI 8 * nI 8
def bhz (z : Nat → Int32) (n d b size : Nat) (wt U : Nat → Nat) (S : Nat → Nat → Nat) (H : Nat → Nat) (w : Nat) : Int64 := if w < 2 then (if 0 < (lbF z n d b size wt U S H).2.1 then (if w = 0 then lN (lbF z n d b size wt U S H).1 else lN (lbF z n d b size wt U S H).2.1) else -1) else (bsD z d b size (lbF z n d b size wt U S H).2.2 (w - 10)).toInt64
def ctz (z tk : Nat → Int32) (st : Int32) (n d k : Nat) : Int32 := if k = 0 then nI n else if k = 1 then nI d else if k = 2 then edz z n else if k = 3 then wz z n (hvz z n (nI 0)) else if k = 4 then hvz z n (nI 0) else if k = 5 then mvS z n (2 ^ n) else if k = 6 then nI (cnK z n) else if k = 7 then sI (fun k => bI (mfp z k)) (8 * n) else if k = 8 then dotz z 50 50 else if k = 9 then z 54 else if k = 10 then tk 0 + tk 1 else st
def nrz (z : Nat → Int32) (n : Nat) (wt U S : Nat → Nat) (H : Nat) : UInt64 := if rsz z n = nI 0 then (if bnA wt U S H n = 0 then 0 else FP.ddiv (FP.dmul (FP.i2d (wz z n (hvz z n (nI 0)))) (FP.l2d (lN (bnB wt U S H n)))) (FP.l2d (lN (bnA wt U S H n)))) else 0
/-- a row with its cells from 50 on overwritten by g, k of them -/
def rsK (z g : Nat → Int32) (k : Nat) : Nat → Int32 := fun j => if 50 ≤ j ∧ j < 50 + k then g (j - 50) else z j
theorem rsK_0 (z g : Nat → Int32) : rsK z g 0 = z := by funext j; unfold rsK; rw [if_neg (by omega)]
theorem rsK_s (z g : Nat → Int32) (p : Nat) : upd (rsK z g p) (50 + p) (g p) = rsK z g (p + 1) := by
  funext j; simp only [rsK, upd]; repeat' split
  all_goals first | rfl | (exfalso; omega) | (subst_vars; congr 1; omega)
