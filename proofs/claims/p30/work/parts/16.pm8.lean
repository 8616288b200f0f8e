/-! ===== the reference's best handle (written by wip/whole/gen/model8.py) ===== -/
/-- only the reference's own scratch differs: color, made, best, kept, the bound's and the least's fields, the hash -/
def SC (M M2 : Mm) : Prop := (∀ i, i ≠ 135 → i ≠ 141 → i ≠ 142 → i ≠ 143 → i ≠ 144 → M2.1 i = M.1 i) ∧ (∀ k, k ≠ 10 → M2.1 135 k = M.1 135 k) ∧ (∀ i, i ≠ 135 → M2.2 i = M.2 i) ∧ M2.2 135 17 = M.2 135 17
theorem SC.rf (M : Mm) : SC M M := ⟨fun _ _ _ _ _ _ => rfl, fun _ _ => rfl, fun _ _ => rfl, rfl⟩
theorem SC.tr {A B C : Mm} (h : SC A B) (g : SC B C) : SC A C := ⟨fun i a b c d e => (g.1 i a b c d e).trans (h.1 i a b c d e), fun k q => (g.2.1 k q).trans (h.2.1 k q), fun i q => (g.2.2.1 i q).trans (h.2.2.1 i q), g.2.2.2.trans h.2.2.2⟩
theorem SC.r {M M2 : Mm} (h : SC M M2) (i : Nat) (hi : i ≠ 135 ∧ i ≠ 141 ∧ i ≠ 142 ∧ i ≠ 143 ∧ i ≠ 144) : M2.1 i = M.1 i := h.1 i hi.1 hi.2.1 hi.2.2.1 hi.2.2.2.1 hi.2.2.2.2
theorem SC.c {M M2 : Mm} (h : SC M M2) (i j : Nat) (hi : i ≠ 135 ∧ i ≠ 141 ∧ i ≠ 142 ∧ i ≠ 143 ∧ i ≠ 144) : M2.1 i j = M.1 i j := congrFun (h.r i hi) j
theorem SC.f {M M2 : Mm} (h : SC M M2) (k : Nat) (hk : k ≠ 10) : M2.1 135 k = M.1 135 k := h.2.1 k hk
theorem hnR_o {z : Nat → Int32} {d c b size t j : Nat} (h : j < 50 ∨ 54 ≤ j) (hd : d ≤ 4) : hnR z d c b size t j = z j := by
  unfold hnR; rw [if_neg (by omega)]
theorem hnR_h {z : Nat → Int32} {d c c2 b size : Nat} : hnR (hnR z d c b size d) d c2 b size d = hnR z d c2 b size d := by
  funext j; simp only [hnR]; repeat' split
  all_goals first | rfl | (exfalso; omega)
theorem sI_c {f g : Nat → Int32} : ∀ {n : Nat}, (∀ k, k < n → f k = g k) → sI f n = sI g n
  | 0, _ => rfl
  | n + 1, h => by
    unfold sI; rw [sI_c (fun k hk => h k (by omega)), h n (by omega)]
theorem dotz_c {z y : Nat → Int32} {a b : Nat} (h1 : ∀ p, p < 4 → z (a + p) = y (a + p)) (h2 : ∀ p, p < 4 → z (b + p) = y (b + p)) : dotz z a b = dotz y a b :=
  sI_c fun p hp => by rw [h1 p hp, h2 p hp]
theorem fi_c {p q : Nat → Bool} : ∀ {n : Nat}, (∀ k, k < n → p k = q k) → fi p n = fi q n
  | 0, _ => rfl
  | n + 1, h => by
    unfold fi; rw [fi_c (fun k hk => h k (by omega)), h n (by omega)]
theorem fiR_c {p q : Nat → Bool} {n : Nat} (h : ∀ k, k < n → p k = q k) : fiR p n = fiR q n := by unfold fiR; rw [fi_c h]
theorem mfR_h {z y : Nat → Int32} {n : Nat} (hn : n ≤ 8) (h : ∀ j, j < 50 → y j = z j) : mfR y n = mfR z n := by
  refine fiR_c fun k hk => ?_
  unfold mfp
  rw [h (10 + k / 8) (by omega), dotz_c (fun p hp => h _ (by omega)) (fun p hp => h _ (by omega))]
/-- how many handles there are, as it is multiplied up -/
def cdN (d b : Nat) : Nat → Nat
  | 0 => 1
  | k + 1 => cdN d b k * (if k < d then b else 1)
theorem cdN_4 {d b : Nat} (h : d ≤ 4) : cdN d b 4 = b ^ d := by
  have e : d = 0 ∨ d = 1 ∨ d = 2 ∨ d = 3 ∨ d = 4 := by omega
  rcases e with rfl | rfl | rfl | rfl | rfl <;> simp [cdN, Nat.pow_succ]
theorem cdN_le {d b : Nat} (hb : b ≤ 5) : ∀ {k : Nat}, k ≤ 4 → cdN d b k ≤ 5 ^ k
  | 0, _ => Nat.le_refl 1
  | k + 1, h => by
    unfold cdN; rw [Nat.pow_succ]
    refine Nat.mul_le_mul (cdN_le hb (by omega)) ?_
    split <;> omega
theorem p5_le {k : Nat} (h : k ≤ 4) : 5 ^ k ≤ 625 := Nat.pow_le_pow_right (by decide) h
theorem pb_le {b d : Nat} (hb : b ≤ 5) (hd : d ≤ 4) : b ^ d ≤ 625 := by
  rw [← cdN_4 hd]; exact cdN_le hb (Nat.le_refl 4)
section LB
variable (z : Nat → Int32) (n d b size : Nat) (wt U : Nat → Nat) (S : Nat → Nat → Nat) (H : Nat → Nat)
/-- the least bound among the first codes: above, below, the code and 1 -/
def lbS : Nat → Nat × Nat × Nat
  | 0 => (0, 0, 0)
  | c + 1 => if upR (hnR z d c b size d) n = -1 ∧ ((lbS c).2.1 = 0 ∨ bnA wt U (S c) (H c) n * (lbS c).2.1 < (lbS c).1 * bnB wt U (S c) (H c) n) then (bnA wt U (S c) (H c) n, bnB wt U (S c) (H c) n, c + 1) else lbS c
def lbF : Nat × Nat × Nat := if mfR z n = -1 then lbS z n d b size wt U S H (b ^ d) else (0, 0, 0)
def bsD (t p : Nat) : Int32 := if t = 0 then nI 0 else hnR z d (t - 1) b size d (50 + p)
def hrw (c : Nat) : Nat → Int32 := if c = 0 then z else hnR z d (c - 1) b size d
/-- what holds of the memory before the code c is tried -/
def lbI (M M9 : Mm) (c : Nat) : Prop :=
  M9.1 136 = hrw z d b size c ∧ (0 < c → mfR z n = -1) ∧ (∀ p, p < 4 → M9.1 144 p = z (50 + p)) ∧ (∀ p, p < 4 → M9.1 143 p = bsD z d b size (lbS z n d b size wt U S H c).2.2 p) ∧
  M9.2 135 14 = lN (lbS z n d b size wt U S H c).2.1 ∧ (0 < (lbS z n d b size wt U S H c).2.1 → M9.2 135 13 = lN (lbS z n d b size wt U S H c).1) ∧
  (∀ i, i ≠ 135 → i ≠ 136 → i ≠ 141 → i ≠ 142 → i ≠ 143 → i ≠ 144 → M9.1 i = M.1 i) ∧ (∀ k, k ≠ 10 → M9.1 135 k = M.1 135 k) ∧ (∀ i, i ≠ 135 → M9.2 i = M.2 i) ∧ M9.2 135 17 = M.2 135 17
end LB
section LB2
variable {z : Nat → Int32} {n d b size : Nat} {wt U : Nat → Nat} {S : Nat → Nat → Nat} {H : Nat → Nat}
theorem hrw_o {c j : Nat} (hd : d ≤ 4) (h : j < 50 ∨ 54 ≤ j) : hrw z d b size c j = z j := by
  unfold hrw; split
  · rfl
  · exact hnR_o h hd
theorem hrw_h {c c2 : Nat} : hnR (hrw z d b size c) d c2 b size d = hnR z d c2 b size d := by
  unfold hrw; split
  · rfl
  · exact hnR_h
def lbHyp (z : Nat → Int32) (n d b size : Nat) (wt U : Nat → Nat) (S : Nat → Nat → Nat) (H : Nat → Nat) : Prop := ∀ c, c < b ^ d → upR (hnR z d c b size d) n = -1 → bnH (hnR z d c b size d) n wt U (S c) (H c)
theorem bnAB {y : Nat → Int32} {S1 : Nat → Nat} {H1 : Nat} (h : bnH y n wt U S1 H1) : bnA wt U S1 H1 n ≤ 1440000 ∧ 0 < bnB wt U S1 H1 n ∧ bnB wt U S1 H1 n ≤ 200000 := by
  have q := bnS_le h n (Nat.le_refl _)
  refine ⟨Nat.le_trans (Nat.div_le_self _ _) q.1, ?_, Nat.le_trans (Nat.div_le_self _ _) q.2.2.1⟩
  exact Nat.div_pos (Nat.gcd_le_right _ q.2.1) (Nat.gcd_pos_of_pos_right _ q.2.1)
theorem lbS_le (h : lbHyp z n d b size wt U S H) : ∀ c, c ≤ b ^ d → (lbS z n d b size wt U S H c).1 ≤ 1440000 ∧ (lbS z n d b size wt U S H c).2.1 ≤ 200000
  | 0, _ => show (0 : Nat) ≤ 1440000 ∧ 0 ≤ 200000 from by decide
  | c + 1, hc => by
    have ih := lbS_le h c (by omega)
    unfold lbS; split
    · rename_i q
      have r := bnAB (h c (by omega) q.1)
      exact ⟨r.1, r.2.2⟩
    · exact ih
theorem lbS_no {c : Nat} (h : ¬ (upR (hnR z d c b size d) n = -1 ∧ ((lbS z n d b size wt U S H c).2.1 = 0 ∨ bnA wt U (S c) (H c) n * (lbS z n d b size wt U S H c).2.1 < (lbS z n d b size wt U S H c).1 * bnB wt U (S c) (H c) n))) : lbS z n d b size wt U S H (c + 1) = lbS z n d b size wt U S H c := if_neg h
theorem lbS_yes {c : Nat} (h : upR (hnR z d c b size d) n = -1 ∧ ((lbS z n d b size wt U S H c).2.1 = 0 ∨ bnA wt U (S c) (H c) n * (lbS z n d b size wt U S H c).2.1 < (lbS z n d b size wt U S H c).1 * bnB wt U (S c) (H c) n)) : lbS z n d b size wt U S H (c + 1) = (bnA wt U (S c) (H c) n, bnB wt U (S c) (H c) n, c + 1) := if_pos h
/-- a memory that differs from another one in the row z, and in scratch that the search does not keep -/
theorem lbI_skip {M M9 M8 : Mm} {c : Nat} (h : lbI z n d b size wt U S H M M9 c) (hm : mfR z n = -1) (he : lbS z n d b size wt U S H (c + 1) = lbS z n d b size wt U S H c) (h1 : M8.1 136 = hnR z d c b size d) (h2 : ∀ i, i ≠ 135 → i ≠ 136 → M8.1 i = M9.1 i) (h3 : ∀ k, k ≠ 10 → M8.1 135 k = M9.1 135 k) (h4 : ∀ i, i ≠ 135 → M8.2 i = M9.2 i) (h5 : M8.2 135 13 = M9.2 135 13) (h6 : M8.2 135 14 = M9.2 135 14) (h17 : M8.2 135 17 = M9.2 135 17) : lbI z n d b size wt U S H M M8 (c + 1) := by
  obtain ⟨a1, a2, a3, a4, a5, a6, a7, a8, a9, a10⟩ := h
  refine ⟨by rw [h1]; rfl, fun _ => hm, fun p hp => by rw [h2 144 (by decide) (by decide)]; exact a3 p hp, fun p hp => by rw [h2 143 (by decide) (by decide), he]; exact a4 p hp, by rw [h6, he]; exact a5, fun q => by rw [h5, he]; exact a6 (by rw [he] at q; exact q), fun i e1 e2 e3 e4 e5 e6 => by rw [h2 i e1 e2]; exact a7 i e1 e2 e3 e4 e5 e6, fun k hk => by rw [h3 k hk]; exact a8 k hk, fun i hi => by rw [h4 i hi]; exact a9 i hi, h17.trans a10⟩
theorem lbI_take {M M9 M8 : Mm} {c : Nat} (h : lbI z n d b size wt U S H M M9 c) (hm : mfR z n = -1) (he : lbS z n d b size wt U S H (c + 1) = (bnA wt U (S c) (H c) n, bnB wt U (S c) (H c) n, c + 1)) (h1 : M8.1 136 = hnR z d c b size d) (h2 : ∀ i, i ≠ 135 → i ≠ 136 → i ≠ 143 → M8.1 i = M9.1 i) (h3 : ∀ k, k ≠ 10 → M8.1 135 k = M9.1 135 k) (h4 : ∀ i, i ≠ 135 → M8.2 i = M9.2 i) (h5 : M8.2 135 13 = lN (bnA wt U (S c) (H c) n)) (h6 : M8.2 135 14 = lN (bnB wt U (S c) (H c) n)) (h7 : ∀ p, p < 4 → M8.1 143 p = hnR z d c b size d (50 + p)) (h17 : M8.2 135 17 = M9.2 135 17) : lbI z n d b size wt U S H M M8 (c + 1) := by
  obtain ⟨a1, a2, a3, a4, a5, a6, a7, a8, a9, a10⟩ := h
  refine ⟨by rw [h1]; rfl, fun _ => hm, fun p hp => by rw [h2 144 (by decide) (by decide) (by decide)]; exact a3 p hp, fun p hp => by rw [h7 p hp, he]; rfl, by rw [h6, he], fun _ => by rw [h5, he], fun i e1 e2 e3 e4 e5 e6 => by rw [h2 i e1 e2 e5]; exact a7 i e1 e2 e3 e4 e5 e6, fun k hk => by rw [h3 k hk]; exact a8 k hk, fun i hi => by rw [h4 i hi]; exact a9 i hi, h17.trans a10⟩
/-- the handle put back -/
def rsH (y z : Nat → Int32) (p : Nat) : Nat → Int32 := fun j => if 50 ≤ j ∧ j < 50 + p then z j else y j
theorem rsH_0 (y z : Nat → Int32) : rsH y z 0 = y := by funext j; unfold rsH; rw [if_neg (by omega)]
theorem rsH_s (y z : Nat → Int32) (p : Nat) : upd (rsH y z p) (50 + p) (z (50 + p)) = rsH y z (p + 1) := by
  funext j; simp only [rsH, upd]; repeat' split
  all_goals first | rfl | (exfalso; omega) | (subst_vars; rfl)
theorem rsH_4 {c : Nat} (hd : d ≤ 4) : rsH (hrw z d b size c) z 4 = z := by
  funext j; unfold rsH
  by_cases q : 50 ≤ j ∧ j < 50 + 4
  · rw [if_pos q]
  · rw [if_neg q]; exact hrw_o hd (by omega)
theorem lbF_eq {c : Nat} (hc : (mfR z n = -1 ∧ c = b ^ d) ∨ (¬ mfR z n = -1 ∧ c = 0)) : lbF z n d b size wt U S H = lbS z n d b size wt U S H c := by
  unfold lbF
  rcases hc with ⟨q, rfl⟩ | ⟨q, rfl⟩
  · rw [if_pos q]
  · rw [if_neg q]; rfl
theorem lbI_end {M M9 : Mm} {c : Nat} (hd : d ≤ 4) (hz : z = M.1 136) (h : lbI z n d b size wt U S H M M9 c) (hc : (mfR z n = -1 ∧ c = b ^ d) ∨ (¬ mfR z n = -1 ∧ c = 0)) : SC M (mA M9 136 z) ∧ (0 < (lbF z n d b size wt U S H).2.1 → M9.2 135 13 = lN (lbF z n d b size wt U S H).1) ∧ M9.2 135 14 = lN (lbF z n d b size wt U S H).2.1 ∧ ∀ p, p < 4 → M9.1 143 p = bsD z d b size (lbF z n d b size wt U S H).2.2 p := by
  obtain ⟨a1, a2, a3, a4, a5, a6, a7, a8, a9, a10⟩ := h
  have e : lbF z n d b size wt U S H = lbS z n d b size wt U S H c := by
    unfold lbF
    rcases hc with ⟨q, rfl⟩ | ⟨q, rfl⟩
    · rw [if_pos q]
    · rw [if_neg q]; rfl
  rw [e]
  refine ⟨⟨fun i e1 e2 e3 e4 e5 => ?_, fun k hk => ?_, fun i hi => a9 i hi, a10⟩, a6, a5, a4⟩
  · by_cases q : i = 136
    · subst q; rw [mA_eq, hz]
    · rw [mA_ne _ q]; exact a7 i e1 q e2 e3 e4 e5
  · rw [mA_ne _ (by decide)]; exact a8 k hk
end LB2
theorem layM_1 {M : Mm} {y : Nat → Int32} {wt U S1 : Nat → Nat} {H1 n i : Nat} (h1 : i ≠ 135) (h2 : i ≠ 136) : (layM (mA M 136 y) wt U S1 H1 n).1 i = M.1 i := by
  unfold layM; rw [setB_1 h1, mA_ne _ h2]
theorem layM_f {M : Mm} {y : Nat → Int32} {wt U S1 : Nat → Nat} {H1 n k : Nat} (hk : k ≠ 10) : (layM (mA M 136 y) wt U S1 H1 n).1 135 k = M.1 135 k := by
  show upd (M.1 135) 10 _ k = _
  exact upd_n _ _ hk
theorem layM_2 {M : Mm} {y : Nat → Int32} {wt U S1 : Nat → Nat} {H1 n i : Nat} (h1 : i ≠ 135) : (layM (mA M 136 y) wt U S1 H1 n).2 i = M.2 i := by
  unfold layM setB; rw [mI_2, mJ_ne _ h1, mJ_ne _ h1]; rfl
theorem mA_id2 {M : Mm} {i j : Nat} {f g : Nat → Int32} (hf : f = M.1 i) (hg : g = M.1 j) : M = mA (mA M i f) j g := by
  have h1 := mA_id (M := M) hf
  rw [← h1]; exact mA_id hg
theorem ovR_s0 (z h : Nat → Int32) (k : Nat) : upd (ovR z h 0 k) k (h k) = ovR z h 0 (k + 1) := by
  have e := ovR_s z h 0 k
  rw [Nat.zero_add] at e; exact e
theorem ovR_in0 {z h : Nat → Int32} {k j : Nat} (hj : j < k) : ovR z h 0 k j = h j := by
  unfold ovR; rw [if_pos hj, Nat.zero_add]
theorem ovR_in {z h : Nat → Int32} {d k j : Nat} (hj : j < k) : ovR z h d k j = h (d + j) := if_pos hj
