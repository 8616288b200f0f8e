/-! ===== the reference's best handle (written by wip/whole/gen/model8.py) ===== -/
/-- only the reference's own scratch differs: color, made, best, kept, the bound's and the least's fields, the hash -/
def SC (M M2 : Mm) : Prop := (∀ i, i ≠ 135 → i ≠ 141 → i ≠ 142 → i ≠ 143 → i ≠ 144 → M2.1 i = M.1 i) ∧ (∀ k, k ≠ 10 → M2.1 135 k = M.1 135 k) ∧ (∀ i, i ≠ 135 → M2.2 i = M.2 i) ∧ M2.2 135 17 = M.2 135 17
theorem SC.rf (M : Mm) : SC M M := ⟨fun _ _ _ _ _ _ => rfl, fun _ _ => rfl, fun _ _ => rfl, rfl⟩
theorem SC.tr {A B C : Mm} (h : SC A B) (g : SC B C) : SC A C := ⟨fun i a b c d e => (g.1 i a b c d e).trans (h.1 i a b c d e), fun k q => (g.2.1 k q).trans (h.2.1 k q), fun i q => (g.2.2.1 i q).trans (h.2.2.1 i q), g.2.2.2.trans h.2.2.2⟩
theorem SC.r {M M2 : Mm} (h : SC M M2) (i : Nat) (hi : i ≠ 135 ∧ i ≠ 141 ∧ i ≠ 142 ∧ i ≠ 143 ∧ i ≠ 144) : M2.1 i = M.1 i := h.1 i hi.1 hi.2.1 hi.2.2.1 hi.2.2.2.1 hi.2.2.2.2
theorem SC.c {M M2 : Mm} (h : SC M M2) (i j : Nat) (hi : i ≠ 135 ∧ i ≠ 141 ∧ i ≠ 142 ∧ i ≠ 143 ∧ i ≠ 144) : M2.1 i j = M.1 i j := congrFun (h.r i hi) j
theorem SC.f {M M2 : Mm} (h : SC M M2) (k : Nat) (hk : k ≠ 10) : M2.1 135 k = M.1 135 k := h.2.1 k hk
theorem hnR_o {z : Nat → Int32} {d c b size t j : Nat} (h : j < 50 ∨ 54 ≤ j) (hd : d ≤ 4) : hnR z d c b size t j = z j := by
  unfold hnR; rw [if_neg (by omega)]
theorem hnR_h {z : Nat → Int32} {d c c2 b size : Nat} : hnR (hnR z d c b size d) d c2 b size d = hnR z d c2 b size d := by
  funext j; simp only [hnR]; repeat' split
  all_goals first | rfl | (exfalso; omega)
theorem sI_c {f g : Nat → Int32} : ∀ {n : Nat}, (∀ k, k < n → f k = g k) → sI f n = sI g n
  | 0, _ => rfl
  | n + 1, h => by
    unfold sI; rw [sI_c (fun k hk => h k (by omega)), h n (by omega)]
theorem dotz_c {z y : Nat → Int32} {a b : Nat} (h1 : ∀ p, p < 4 → z (a + p) = y (a + p)) (h2 : ∀ p, p < 4 → z (b + p) = y (b + p)) : dotz z a b = dotz y a b :=
  sI_c fun p hp => by rw [h1 p hp, h2 p hp]
theorem fi_c {p q : Nat → Bool} : ∀ {n : Nat}, (∀ k, k < n → p k = q k) → fi p n = fi q n
  | 0, _ => rfl
  | n + 1, h => by
    unfold fi; rw [fi_c (fun k hk => h k (by omega)), h n (by omega)]
theorem fiR_c {p q : Nat → Bool} {n : Nat} (h : ∀ k, k < n → p k = q k) : fiR p n = fiR q n := by unfold fiR; rw [fi_c h]
theorem mfR_h {z y : Nat → Int32} {n : Nat} (hn : n ≤ 8) (h : ∀ j, j < 50 → y j = z j) : mfR y n = mfR z n := by
  refine fiR_c fun k hk => ?_
  unfold mfp
  rw [h (10 + k / 8) (by omega), dotz_c (fun p hp => h _ (by omega)) (fun p hp => h _ (by omega))]
/-- how many handles there are, as it is multiplied up -/
def cdN (d b : Nat) : Nat → Nat
  | 0 => 1
  | k + 1 => cdN d b k * (if k < d then b else 1)
theorem cdN_4 {d b : Nat} (h : d ≤ 4) : cdN d b 4 = b ^ d := by
  have e : d = 0 ∨ d = 1 ∨ d = 2 ∨ d = 3 ∨ d = 4 := by omega
  rcases e with rfl | rfl | rfl | rfl | rfl <;> simp [cdN, Nat.pow_succ]
theorem cdN_le {d b : Nat} (hb : b ≤ 5) : ∀ {k : Nat}, k ≤ 4 → cdN d b k ≤ 5 ^ k
  | 0, _ => Nat.le_refl 1
  | k + 1, h => by
    unfold cdN; rw [Nat.pow_succ]
    refine Nat.mul_le_mul (cdN_le hb (by omega)) ?_
    split <;> omega
theorem p5_le {k : Nat} (h : k ≤ 4) : 5 ^ k ≤ 625 := Nat.pow_le_pow_right (by decide) h
theorem pb_le {b d : Nat} (hb : b ≤ 5) (hd : d ≤ 4) : b ^ d ≤ 625 := by
  rw [← cdN_4 hd]; exact cdN_le hb (Nat.le_refl 4)
section LB
variable (z : Nat → Int32) (n d b size : Nat) (wt U : Nat → Nat) (S : Nat → Nat → Nat) (H : Nat → Nat)
/-- the least bound among the first codes: above, below, the code and 1 -/
def lbS : Nat → Nat × Nat × Nat
  | 0 => (0, 0, 0)
  | c + 1 => if upR (hnR z d c b size d) n = -1 ∧ ((lbS c).2.1 = 0 ∨ bnA wt U (S c) (H c) n * (lbS c).2.1 < (lbS c).1 * bnB wt U (S c) (H c) n) then (bnA wt U (S c) (H c) n, bnB wt U (S c) (H c) n, c + 1) else lbS c
def lbF : Nat × Nat × Nat := if mfR z n = -1 then lbS z n d b size wt U S H (b ^ d) else (0, 0, 0)
def bsD (t p : Nat) : Int32 := if t = 0 then nI 0 else hnR z d (t - 1) b size d (50 + p)
def hrw (c : Nat) : Nat → Int32 := if c = 0 then z else hnR z d (c - 1) b size d
/-- what holds of the memory before the code c is tried -/
def lbI (M M9 : Mm) (c : Nat) : Prop :=
  M9.1 136 = hrw z d b size c ∧ (0 < c → mfR z n = -1) ∧ (∀ p, p < 4 → M9.1 144 p = z (50 + p)) ∧ (∀ p, p < 4 → M9.1 143 p = bsD z d b size (lbS z n d b size wt U S H c).2.2 p) ∧
  M9.2 135 14 = lN (lbS z n d b size wt U S H c).2.1 ∧ (0 < (lbS z n d b size wt U S H c).2.1 → M9.2 135 13 = lN (lbS z n d b size wt U S H c).1) ∧
  (∀ i, i ≠ 135 → i ≠ 136 → i ≠ 141 → i ≠ 142 → i ≠ 143 → i ≠ 144 → M9.1 i = M.1 i) ∧ (∀ k, k ≠ 10 → M9.1 135 k = M.1 135 k) ∧ (∀ i, i ≠ 135 → M9.2 i = M.2 i) ∧ M9.2 135 17 = M.2 135 17
end LB
section LB2
variable {z : Nat → Int32} {n d b size : Nat} {wt U : Nat → Nat} {S : Nat → Nat → Nat} {H : Nat → Nat}
theorem hrw_o {c j : Nat} (hd : d ≤ 4) (h : j < 50 ∨ 54 ≤ j) : hrw z d b size c j = z j := by
  unfold hrw; split
  · rfl
  · exact hnR_o h hd
theorem hrw_h {c c2 : Nat} : hnR (hrw z d b size c) d c2 b size d = hnR z d c2 b size d := by
  unfold hrw; split
  · rfl
  · exact hnR_h
def lbHyp (z : Nat → Int32) (n d b size : Nat) (wt U : Nat → Nat) (S : Nat → Nat → Nat) (H : Nat → Nat) : Prop := ∀ c, c < b ^ d → upR (hnR z d c b size d) n = -1 → bnH (hnR z d c b size d) n wt U (S c) (H c)
theorem bnAB {y : Nat → Int32} {S1 : Nat → Nat} {H1 : Nat} (h : bnH y n wt U S1 H1) : bnA wt U S1 H1 n ≤ 1440000 ∧ 0 < bnB wt U S1 H1 n ∧ bnB wt U S1 H1 n ≤ 200000 := by
  have q := bnS_le h n (Nat.le_refl _)
  refine ⟨Nat.le_trans (Nat.div_le_self _ _) q.1, ?_, Nat.le_trans (Nat.div_le_self _ _) q.2.2.1⟩
  exact Nat.div_pos (Nat.gcd_le_right _ q.2.1) (Nat.gcd_pos_of_pos_right _ q.2.1)
theorem lbS_le (h : lbHyp z n d b size wt U S H) : ∀ c, c ≤ b ^ d → (lbS z n d b size wt U S H c).1 ≤ 1440000 ∧ (lbS z n d b size wt U S H c).2.1 ≤ 200000
  | 0, _ => show (0 : Nat) ≤ 1440000 ∧ 0 ≤ 200000 from by decide
  | c + 1, hc => by
    have ih := lbS_le h c (by omega)
    unfold lbS; split
    · rename_i q
      have r := bnAB (h c (by omega) q.1)
      exact ⟨r.1, r.2.2⟩
    · exact ih
theorem lbS_no {c : Nat} (h : ¬ (upR (hnR z d c b size d) n = -1 ∧ ((lbS z n d b size wt U S H c).2.1 = 0 ∨ bnA wt U (S c) (H c) n * (lbS z n d b size wt U S H c).2.1 < (lbS z n d b size wt U S H c).1 * bnB wt U (S c) (H c) n))) : lbS z n d b size wt U S H (c + 1) = lbS z n d b size wt U S H c := if_neg h
theorem lbS_yes {c : Nat} (h : upR (hnR z d c b size d) n = -1 ∧ ((lbS z n d b size wt U S H c).2.1 = 0 ∨ bnA wt U (S c) (H c) n * (lbS z n d b size wt U S H c).2.1 < (lbS z n d b size wt U S H c).1 * bnB wt U (S c) (H c) n)) : lbS z n d b size wt U S H (c + 1) = (bnA wt U (S c) (H c) n, bnB wt U (S c) (H c) n, c + 1) := if_pos h
/-- a memory that differs from another one in the row z, and in scratch that the search does not keep -/
theorem lbI_skip {M M9 M8 : Mm} {c : Nat} (h : lbI z n d b size wt U S H M M9 c) (hm : mfR z n = -1) (he : lbS z n d b size wt U S H (c + 1) = lbS z n d b size wt U S H c) (h1 : M8.1 136 = hnR z d c b size d) (h2 : ∀ i, i ≠ 135 → i ≠ 136 → M8.1 i = M9.1 i) (h3 : ∀ k, k ≠ 10 → M8.1 135 k = M9.1 135 k) (h4 : ∀ i, i ≠ 135 → M8.2 i = M9.2 i) (h5 : M8.2 135 13 = M9.2 135 13) (h6 : M8.2 135 14 = M9.2 135 14) (h17 : M8.2 135 17 = M9.2 135 17) : lbI z n d b size wt U S H M M8 (c + 1) := by
  obtain ⟨a1, a2, a3, a4, a5, a6, a7, a8, a9, a10⟩ := h
  refine ⟨by rw [h1]; rfl, fun _ => hm, fun p hp => by rw [h2 144 (by decide) (by decide)]; exact a3 p hp, fun p hp => by rw [h2 143 (by decide) (by decide), he]; exact a4 p hp, by rw [h6, he]; exact a5, fun q => by rw [h5, he]; exact a6 (by rw [he] at q; exact q), fun i e1 e2 e3 e4 e5 e6 => by rw [h2 i e1 e2]; exact a7 i e1 e2 e3 e4 e5 e6, fun k hk => by rw [h3 k hk]; exact a8 k hk, fun i hi => by rw [h4 i hi]; exact a9 i hi, h17.trans a10⟩
theorem lbI_take {M M9 M8 : Mm} {c : Nat} (h : lbI z n d b size wt U S H M M9 c) (hm : mfR z n = -1) (he : lbS z n d b size wt U S H (c + 1) = (bnA wt U (S c) (H c) n, bnB wt U (S c) (H c) n, c + 1)) (h1 : M8.1 136 = hnR z d c b size d) (h2 : ∀ i, i ≠ 135 → i ≠ 136 → i ≠ 143 → M8.1 i = M9.1 i) (h3 : ∀ k, k ≠ 10 → M8.1 135 k = M9.1 135 k) (h4 : ∀ i, i ≠ 135 → M8.2 i = M9.2 i) (h5 : M8.2 135 13 = lN (bnA wt U (S c) (H c) n)) (h6 : M8.2 135 14 = lN (bnB wt U (S c) (H c) n)) (h7 : ∀ p, p < 4 → M8.1 143 p = hnR z d c b size d (50 + p)) (h17 : M8.2 135 17 = M9.2 135 17) : lbI z n d b size wt U S H M M8 (c + 1) := by
  obtain ⟨a1, a2, a3, a4, a5, a6, a7, a8, a9, a10⟩ := h
  refine ⟨by rw [h1]; rfl, fun _ => hm, fun p hp => by rw [h2 144 (by decide) (by decide) (by decide)]; exact a3 p hp, fun p hp => by rw [h7 p hp, he]; rfl, by rw [h6, he], fun _ => by rw [h5, he], fun i e1 e2 e3 e4 e5 e6 => by rw [h2 i e1 e2 e5]; exact a7 i e1 e2 e3 e4 e5 e6, fun k hk => by rw [h3 k hk]; exact a8 k hk, fun i hi => by rw [h4 i hi]; exact a9 i hi, h17.trans a10⟩
/-- the handle put back -/
def rsH (y z : Nat → Int32) (p : Nat) : Nat → Int32 := fun j => if 50 ≤ j ∧ j < 50 + p then z j else y j
theorem rsH_0 (y z : Nat → Int32) : rsH y z 0 = y := by funext j; unfold rsH; rw [if_neg (by omega)]
theorem rsH_s (y z : Nat → Int32) (p : Nat) : upd (rsH y z p) (50 + p) (z (50 + p)) = rsH y z (p + 1) := by
  funext j; simp only [rsH, upd]; repeat' split
  all_goals first | rfl | (exfalso; omega) | (subst_vars; rfl)
theorem rsH_4 {c : Nat} (hd : d ≤ 4) : rsH (hrw z d b size c) z 4 = z := by
  funext j; unfold rsH
  by_cases q : 50 ≤ j ∧ j < 50 + 4
  · rw [if_pos q]
  · rw [if_neg q]; exact hrw_o hd (by omega)
theorem lbF_eq {c : Nat} (hc : (mfR z n = -1 ∧ c = b ^ d) ∨ (¬ mfR z n = -1 ∧ c = 0)) : lbF z n d b size wt U S H = lbS z n d b size wt U S H c := by
  unfold lbF
  rcases hc with ⟨q, rfl⟩ | ⟨q, rfl⟩
  · rw [if_pos q]
  · rw [if_neg q]; rfl
theorem lbI_end {M M9 : Mm} {c : Nat} (hd : d ≤ 4) (hz : z = M.1 136) (h : lbI z n d b size wt U S H M M9 c) (hc : (mfR z n = -1 ∧ c = b ^ d) ∨ (¬ mfR z n = -1 ∧ c = 0)) : SC M (mA M9 136 z) ∧ (0 < (lbF z n d b size wt U S H).2.1 → M9.2 135 13 = lN (lbF z n d b size wt U S H).1) ∧ M9.2 135 14 = lN (lbF z n d b size wt U S H).2.1 ∧ ∀ p, p < 4 → M9.1 143 p = bsD z d b size (lbF z n d b size wt U S H).2.2 p := by
  obtain ⟨a1, a2, a3, a4, a5, a6, a7, a8, a9, a10⟩ := h
  have e : lbF z n d b size wt U S H = lbS z n d b size wt U S H c := by
    unfold lbF
    rcases hc with ⟨q, rfl⟩ | ⟨q, rfl⟩
    · rw [if_pos q]
    · rw [if_neg q]; rfl
  rw [e]
  refine ⟨⟨fun i e1 e2 e3 e4 e5 => ?_, fun k hk => ?_, fun i hi => a9 i hi, a10⟩, a6, a5, a4⟩
  · by_cases q : i = 136
    · subst q; rw [mA_eq, hz]
    · rw [mA_ne _ q]; exact a7 i e1 q e2 e3 e4 e5
  · rw [mA_ne _ (by decide)]; exact a8 k hk
end LB2
theorem layM_1 {M : Mm} {y : Nat → Int32} {wt U S1 : Nat → Nat} {H1 n i : Nat} (h1 : i ≠ 135) (h2 : i ≠ 136) : (layM (mA M 136 y) wt U S1 H1 n).1 i = M.1 i := by
  unfold layM; rw [setB_1 h1, mA_ne _ h2]
theorem layM_f {M : Mm} {y : Nat → Int32} {wt U S1 : Nat → Nat} {H1 n k : Nat} (hk : k ≠ 10) : (layM (mA M 136 y) wt U S1 H1 n).1 135 k = M.1 135 k := by
  show upd (M.1 135) 10 _ k = _
  exact upd_n _ _ hk
theorem layM_2 {M : Mm} {y : Nat → Int32} {wt U S1 : Nat → Nat} {H1 n i : Nat} (h1 : i ≠ 135) : (layM (mA M 136 y) wt U S1 H1 n).2 i = M.2 i := by
  unfold layM setB; rw [mI_2, mJ_ne _ h1, mJ_ne _ h1]; rfl
theorem mA_id2 {M : Mm} {i j : Nat} {f g : Nat → Int32} (hf : f = M.1 i) (hg : g = M.1 j) : M = mA (mA M i f) j g := by
  have h1 := mA_id (M := M) hf
  rw [← h1]; exact mA_id hg
theorem ovR_s0 (z h : Nat → Int32) (k : Nat) : upd (ovR z h 0 k) k (h k) = ovR z h 0 (k + 1) := by
  have e := ovR_s z h 0 k
  rw [Nat.zero_add] at e; exact e
theorem ovR_in0 {z h : Nat → Int32} {k j : Nat} (hj : j < k) : ovR z h 0 k j = h j := by
  unfold ovR; rw [if_pos hj, Nat.zero_add]
theorem ovR_in {z h : Nat → Int32} {d k j : Nat} (hj : j < k) : ovR z h d k j = h (d + j) := if_pos hj
set_option maxRecDepth 100000 in
set_option maxHeartbeats 4000000 in
theorem c_X8_layBest (l : Launch) (D : va_G) (cs : Nat → ClassId) (ad : Nat → Nat) (M : Mm) (n : Nat) (hn : M.1 136 0 = nI n) (hn8 : n ≤ 8) (d : Nat) (hd : M.1 136 1 = nI d) (hd4 : d ≤ 4) (size b : Nat) (hb : 2 * size + 1 = b) (hs1 : 1 ≤ size) (hs2 : size ≤ 2) (wt U : Nat → Nat) (S : Nat → Nat → Nat) (H : Nat → Nat) (hBB : lbHyp (M.1 136) n d b size wt U S H) : ∀ sz : Nat, Met l yX8_layBest (.code yX8_layBest cX8_layBest 5 (some .boolean) :: TT) { frames := 3, cells := 0, slots := 0, locals := 70 } (va_Pc [.ref (ad 135), .int (nI size)] (fun U9 => U9.heap.size = sz ∧ wB D cs ad (fA ad sz) M U9)) (va_Qi (fun r M2 => r = bI (decide (0 < (lbF (M.1 136) n d b size wt U S H).2.1)) ∧ SC M M2 ∧ (0 < (lbF (M.1 136) n d b size wt U S H).2.1 → M2.2 135 13 = lN (lbF (M.1 136) n d b size wt U S H).1) ∧ M2.2 135 14 = lN (lbF (M.1 136) n d b size wt U S H).2.1 ∧ ∀ p, p < 4 → M2.1 143 p = bsD (M.1 136) d b size (lbF (M.1 136) n d b size wt U S H).2.2 p) (wB D cs ad (fA ad sz)) (fA ad sz)) 0 0 (fA ad sz) := by
  have hb5 : b ≤ 5 := by omega
  have hpb := pb_le hb5 hd4
  have hbd : 0 < b ^ d := Nat.pow_pos (by omega)
  refine st_Z (by decide) (Nat.le_of_ble_eq_true rfl) (fun κ C E => ?_)
  refine r_lv (lv2 := [(0, .ref (ad 135)), (1, .int (nI size))]) [0, 1] rfl ?_
  refine r_aload_n C dX8_layBest_0 rfl 0 rfl ?_
  refine r_lconst C (lN 0) dX8_layBest_1 rfl ?_
  refine r_put C (M2 := (mJ M 135 14 (lN 0))) (Cn := RX8) (T := TX8) (N := 18) (id := 135) (by decide) inw_X8 tyX8_ok nmX8 rfl rfl 14 (by decide) rfl fl_X8_150 rfl rfl (rfl) (Nat.le_of_ble_eq_true rfl) (fun j hj => ⟨rfl, mJ_ne _ hj⟩) rfl dX8_layBest_2 ?_
  refine r_iconst C (nI 1) dX8_layBest_5 (by decide) ?_
  refine r_istore_n C [(2, .int (nI 1)), (0, .ref (ad 135)), (1, .int (nI size))] dX8_layBest_6 rfl (by decide) rfl ?_
  refine r_iconst C (nI 0) dX8_layBest_7 (by decide) ?_
  refine r_istore_n C [(3, .int (nI 0)), (2, .int (nI 1)), (0, .ref (ad 135)), (1, .int (nI size))] dX8_layBest_8 rfl (by decide) rfl ?_
  have Lk : ∀ (f k : Nat), 4 + 1 ≤ k + f → k ≤ 4 → VV l D cs ad 5 κ 0 (mA (mA (mJ M 135 14 (lN 0)) 144 (ovR (M.1 144) (fun p => M.1 136 (50 + p)) 0 k)) 143 (emA (M.1 143) k)) 9 [(3, .int (nI k)), (2, .int (nI (cdN d b k))), (0, .ref (ad 135)), (1, .int (nI size))] [] := by
    intro f
    induction f with
    | zero => intro k hk1 hk2; exact absurd hk1 (by omega)
    | succ f ih =>
      intro k hk1 hk2
      refine r_iload_n C dX8_layBest_9 rfl 0 rfl ?_
      refine r_iconst C (nI 4) dX8_layBest_10 (by decide) ?_
      refine r_icmpN_ge C 64 dX8_layBest_11 (by decide) (by omega) (by omega) (fun h11 => ?_) (fun h11 => ?_)
      ·
        have hk9 : 4 = k := by omega
        subst hk9
        refine r_lv (lv2 := [(3, .int (nI 4)), (2, .int (nI (b ^ d))), (0, .ref (ad 135)), (1, .int (nI size))]) [0, 1, 2, 3] (by rw [cdN_4 hd4]; rfl) ?_
        refine r_iconst C (nI 0) dX8_layBest_64 (by decide) ?_
        refine r_istore_n C [(3, .int (nI 0)), (2, .int (nI (b ^ d))), (0, .ref (ad 135)), (1, .int (nI size))] dX8_layBest_65 rfl (by decide) rfl ?_
        have Lc : ∀ (f_c c : Nat) (M9 : Mm), b ^ d + 1 ≤ c + f_c → c ≤ b ^ d → lbI (M.1 136) n d b size wt U S H M M9 c → VV l D cs ad 5 κ 0 M9 66 [(3, .int (nI c)), (2, .int (nI (b ^ d))), (0, .ref (ad 135)), (1, .int (nI size))] [] := by
          intro f_c
          induction f_c with
          | zero => intro c M9 hk1_c hk2_c hI_c; exact absurd hk1_c (by omega)
          | succ f_c ih_c =>
            intro c M9 hk1_c hk2_c hI_c
            refine r_iload_n C dX8_layBest_66 rfl 0 rfl ?_
            refine r_iload_n C dX8_layBest_67 rfl 1 rfl ?_
            refine r_icmpN_ge C 182 dX8_layBest_68 (by decide) (by omega) (by omega) (fun h68 => ?_) (fun h68 => ?_)
            ·
              have hk9 : b ^ d = c := by omega
              have hend : (mfR (M.1 136) n = -1 ∧ c = b ^ d) ∨ (¬ mfR (M.1 136) n = -1 ∧ c = 0) := Or.inl ⟨hI_c.2.1 (by rw [← hk9]; exact hbd), hk9.symm⟩
              refine r_iconst C (nI 0) dX8_layBest_182 (by decide) ?_
              refine r_istore_n C [(3, .int (nI 0)), (2, .int (nI (b ^ d))), (0, .ref (ad 135)), (1, .int (nI size))] dX8_layBest_183 rfl (by decide) rfl ?_
              have Lz : ∀ (f_p p : Nat), 4 + 1 ≤ p + f_p → p ≤ 4 → VV l D cs ad 5 κ 0 (mA M9 136 (rsH (hrw (M.1 136) d b size c) (M.1 136) p)) 184 [(3, .int (nI p)), (0, .ref (ad 135)), (1, .int (nI size))] [] := by
                intro f_p
                induction f_p with
                | zero => intro p hk1_p hk2_p; exact absurd hk1_p (by omega)
                | succ f_p ih_p =>
                  intro p hk1_p hk2_p
                  refine r_iload_n C dX8_layBest_184 rfl 0 rfl ?_
                  refine r_iconst C (nI 4) dX8_layBest_185 (by decide) ?_
                  refine r_icmpN_ge C 210 dX8_layBest_186 (by decide) (by omega) (by omega) (fun h186 => ?_) (fun h186 => ?_)
                  ·
                    have hk9 : 4 = p := by omega
                    subst hk9
                    have hE := lbI_end hd4 rfl hI_c hend
                    have hF := lbF_eq (wt := wt) (U := U) (S := S) (H := H) (size := size) hend
                    have hlq := lbS_le hBB c (by omega)
                    have h9e : mA M9 136 (rsH (hrw (M.1 136) d b size c) (M.1 136) 4) = mA M9 136 (M.1 136) := by rw [rsH_4 hd4]
                    refine r_aload_n C dX8_layBest_210 rfl 1 rfl ?_
                    refine r_get C (Cn := RX8) (T := TX8) (N := 18) (id := 135) (by decide) inw_X8 rfl rfl 14 (by decide) rfl fl_X8_150 rfl dX8_layBest_211 ?_
                    refine r_topl (w := lN ((lbS (M.1 136) n d b size wt U S H c).2.1)) (hI_c.2.2.2.2.1) ?_
                    refine r_lconst C (lN 0) dX8_layBest_214 rfl ?_
                    refine r_lcmp C dX8_layBest_215 ?_
                    refine r_if_le C 223 dX8_layBest_216 (by decide) (fun h216 => ?_) (fun h216 => ?_)
                    ·
                      rw [lgcN_le (by omega) (by omega)] at h216
                      refine r_iconst C (nI 0) dX8_layBest_223 (by decide) ?_
                      exact E 0 _ _ _ _ (Nat.le_of_ble_eq_true rfl) dX8_layBest_224 rfl (⟨bI_off (by rw [hF]; exact decide_eq_false (by omega)), by rw [h9e]; exact ⟨hE.1, hE.2.1, hE.2.2.1, hE.2.2.2⟩⟩)
                    ·
                      rw [lgcN_le (by omega) (by omega)] at h216
                      refine r_iconst C (nI 1) dX8_layBest_219 (by decide) ?_
                      refine r_goto C 224 dX8_layBest_220 (by decide) ?_
                      exact E 0 _ _ _ _ (Nat.le_of_ble_eq_true rfl) dX8_layBest_224 rfl (⟨bI_on (by rw [hF]; exact decide_eq_true (by omega)), by rw [h9e]; exact ⟨hE.1, hE.2.1, hE.2.2.1, hE.2.2.2⟩⟩)
                  ·
                    refine r_aload_n C dX8_layBest_189 rfl 1 rfl ?_
                    refine r_get C (Cn := RX8) (T := TX8) (N := 18) (id := 135) (by decide) inw_X8 rfl rfl 0 (by decide) rfl fl_X8_7 rfl dX8_layBest_190 ?_
                    refine r_bipush C (nI 50) dX8_layBest_193 (by decide) ?_
                    refine r_iload_n C dX8_layBest_195 rfl 0 rfl ?_
                    refine r_iadd C dX8_layBest_196 ?_
                    refine r_topi (nI_add 50 p) ?_
                    refine r_aload_n C dX8_layBest_197 rfl 1 rfl ?_
                    refine r_get C (Cn := RX8) (T := TX8) (N := 18) (id := 135) (by decide) inw_X8 rfl rfl 16 (by decide) rfl fl_X8_34 rfl dX8_layBest_198 ?_
                    refine r_iload_n C dX8_layBest_201 rfl 0 rfl ?_
                    refine r_iald C (id := 144) (n := 4) (a := p) (by decide) rfl (by omega) (by decide) dX8_layBest_202 ?_
                    refine r_topi (w := (M.1 136 (50 + p))) (hI_c.2.2.1 p (by omega)) ?_
                    refine r_iast C (id := 136) (n := 55) (a := 50 + p) (by decide) (fun _ => rfl) (by omega) (by decide) dX8_layBest_203 ?_
                    refine r_iinc C (nI (p + 1)) [(3, .int (nI (p + 1))), (0, .ref (ad 135)), (1, .int (nI size))] dX8_layBest_204 (j := 0) rfl (inc_n p 1) (by decide) rfl ?_
                    refine r_goto C 184 dX8_layBest_207 (by decide) ?_
                    refine r_lv (lv2 := [(3, .int (nI (p + 1))), (0, .ref (ad 135)), (1, .int (nI size))]) [0, 1, 2] rfl ?_
                    refine r_mem (M2 := (mA M9 136 (rsH (hrw (M.1 136) d b size c) (M.1 136) (p + 1)))) (by rw [mIA, rsH_s]) ?_
                    exact ih_p (p + 1) (by omega) (by omega)
              refine r_lv (lv2 := [(3, .int (nI 0)), (0, .ref (ad 135)), (1, .int (nI size))]) [0, 2, 3] rfl ?_
              refine r_mem (M2 := (mA M9 136 (rsH (hrw (M.1 136) d b size c) (M.1 136) 0))) (mA_id (by rw [rsH_0, hI_c.1])) ?_
              exact Lz (4 + 1) 0 (by omega) (by omega)
            ·
              refine r_aload_n C dX8_layBest_71 rfl 2 rfl ?_
              refine r_pcallV_i (nA := 0) C (Nat.le_of_ble_eq_true rfl) [] (c_X8_misfit l D cs ad M9  n ((congrFun hI_c.1 0).trans ((hrw_o hd4 (Or.inl (by decide))).trans hn)) hn8) (tt_V ml_X8_76 im_X8_misfit se_X8_misfit in_X8 co_X8_misfit) ⟨rfl, rfl⟩ ⟨rfl, by decide, by decide, by decide⟩ ⟨Nat.le_of_ble_eq_true rfl, Nat.le_of_ble_eq_true rfl⟩ (by decide) rfl rfl rfl rfl rfl (Nat.le_of_ble_eq_true rfl) dX8_layBest_72 ?_
              refine r_topi (w := mfR (M.1 136) n) (by rw [hI_c.1]; exact mfR_h hn8 (fun j hj => hrw_o hd4 (Or.inl hj))) ?_
              refine r_iconst C ((-1)) dX8_layBest_75 (by decide) ?_
              refine r_icmp_ne C 182 dX8_layBest_76 (by decide) (fun h76 => ?_) (fun h76 => ?_)
              ·
                have hc0 : c = 0 := Decidable.byContradiction (fun q => h76 (hI_c.2.1 (by omega)))
                have hend : (mfR (M.1 136) n = -1 ∧ c = b ^ d) ∨ (¬ mfR (M.1 136) n = -1 ∧ c = 0) := Or.inr ⟨h76, hc0⟩
                refine r_iconst C (nI 0) dX8_layBest_182 (by decide) ?_
                refine r_istore_n C [(3, .int (nI 0)), (2, .int (nI (b ^ d))), (0, .ref (ad 135)), (1, .int (nI size))] dX8_layBest_183 rfl (by decide) rfl ?_
                have Lz : ∀ (f_p p : Nat), 4 + 1 ≤ p + f_p → p ≤ 4 → VV l D cs ad 5 κ 0 (mA M9 136 (rsH (hrw (M.1 136) d b size c) (M.1 136) p)) 184 [(3, .int (nI p)), (0, .ref (ad 135)), (1, .int (nI size))] [] := by
                  intro f_p
                  induction f_p with
                  | zero => intro p hk1_p hk2_p; exact absurd hk1_p (by omega)
                  | succ f_p ih_p =>
                    intro p hk1_p hk2_p
                    refine r_iload_n C dX8_layBest_184 rfl 0 rfl ?_
                    refine r_iconst C (nI 4) dX8_layBest_185 (by decide) ?_
                    refine r_icmpN_ge C 210 dX8_layBest_186 (by decide) (by omega) (by omega) (fun h186 => ?_) (fun h186 => ?_)
                    ·
                      have hk9 : 4 = p := by omega
                      subst hk9
                      have hE := lbI_end hd4 rfl hI_c hend
                      have hF := lbF_eq (wt := wt) (U := U) (S := S) (H := H) (size := size) hend
                      have hlq := lbS_le hBB c (by omega)
                      have h9e : mA M9 136 (rsH (hrw (M.1 136) d b size c) (M.1 136) 4) = mA M9 136 (M.1 136) := by rw [rsH_4 hd4]
                      refine r_aload_n C dX8_layBest_210 rfl 1 rfl ?_
                      refine r_get C (Cn := RX8) (T := TX8) (N := 18) (id := 135) (by decide) inw_X8 rfl rfl 14 (by decide) rfl fl_X8_150 rfl dX8_layBest_211 ?_
                      refine r_topl (w := lN ((lbS (M.1 136) n d b size wt U S H c).2.1)) (hI_c.2.2.2.2.1) ?_
                      refine r_lconst C (lN 0) dX8_layBest_214 rfl ?_
                      refine r_lcmp C dX8_layBest_215 ?_
                      refine r_if_le C 223 dX8_layBest_216 (by decide) (fun h216 => ?_) (fun h216 => ?_)
                      ·
                        rw [lgcN_le (by omega) (by omega)] at h216
                        refine r_iconst C (nI 0) dX8_layBest_223 (by decide) ?_
                        exact E 0 _ _ _ _ (Nat.le_of_ble_eq_true rfl) dX8_layBest_224 rfl (⟨bI_off (by rw [hF]; exact decide_eq_false (by omega)), by rw [h9e]; exact ⟨hE.1, hE.2.1, hE.2.2.1, hE.2.2.2⟩⟩)
                      ·
                        rw [lgcN_le (by omega) (by omega)] at h216
                        refine r_iconst C (nI 1) dX8_layBest_219 (by decide) ?_
                        refine r_goto C 224 dX8_layBest_220 (by decide) ?_
                        exact E 0 _ _ _ _ (Nat.le_of_ble_eq_true rfl) dX8_layBest_224 rfl (⟨bI_on (by rw [hF]; exact decide_eq_true (by omega)), by rw [h9e]; exact ⟨hE.1, hE.2.1, hE.2.2.1, hE.2.2.2⟩⟩)
                    ·
                      refine r_aload_n C dX8_layBest_189 rfl 1 rfl ?_
                      refine r_get C (Cn := RX8) (T := TX8) (N := 18) (id := 135) (by decide) inw_X8 rfl rfl 0 (by decide) rfl fl_X8_7 rfl dX8_layBest_190 ?_
                      refine r_bipush C (nI 50) dX8_layBest_193 (by decide) ?_
                      refine r_iload_n C dX8_layBest_195 rfl 0 rfl ?_
                      refine r_iadd C dX8_layBest_196 ?_
                      refine r_topi (nI_add 50 p) ?_
                      refine r_aload_n C dX8_layBest_197 rfl 1 rfl ?_
                      refine r_get C (Cn := RX8) (T := TX8) (N := 18) (id := 135) (by decide) inw_X8 rfl rfl 16 (by decide) rfl fl_X8_34 rfl dX8_layBest_198 ?_
                      refine r_iload_n C dX8_layBest_201 rfl 0 rfl ?_
                      refine r_iald C (id := 144) (n := 4) (a := p) (by decide) rfl (by omega) (by decide) dX8_layBest_202 ?_
                      refine r_topi (w := (M.1 136 (50 + p))) (hI_c.2.2.1 p (by omega)) ?_
                      refine r_iast C (id := 136) (n := 55) (a := 50 + p) (by decide) (fun _ => rfl) (by omega) (by decide) dX8_layBest_203 ?_
                      refine r_iinc C (nI (p + 1)) [(3, .int (nI (p + 1))), (0, .ref (ad 135)), (1, .int (nI size))] dX8_layBest_204 (j := 0) rfl (inc_n p 1) (by decide) rfl ?_
                      refine r_goto C 184 dX8_layBest_207 (by decide) ?_
                      refine r_lv (lv2 := [(3, .int (nI (p + 1))), (0, .ref (ad 135)), (1, .int (nI size))]) [0, 1, 2] rfl ?_
                      refine r_mem (M2 := (mA M9 136 (rsH (hrw (M.1 136) d b size c) (M.1 136) (p + 1)))) (by rw [mIA, rsH_s]) ?_
                      exact ih_p (p + 1) (by omega) (by omega)
                refine r_lv (lv2 := [(3, .int (nI 0)), (0, .ref (ad 135)), (1, .int (nI size))]) [0, 2, 3] rfl ?_
                refine r_mem (M2 := (mA M9 136 (rsH (hrw (M.1 136) d b size c) (M.1 136) 0))) (mA_id (by rw [rsH_0, hI_c.1])) ?_
                exact Lz (4 + 1) 0 (by omega) (by omega)
              ·
                refine r_aload_n C dX8_layBest_79 rfl 2 rfl ?_
                refine r_iload_n C dX8_layBest_80 rfl 0 rfl ?_
                refine r_iload_n C dX8_layBest_81 rfl 3 rfl ?_
                refine r_pcallV_v (nA := 2) C (Nat.le_of_ble_eq_true rfl) [.int (nI c), .int (nI size)] (c_X8_setHandle l D cs ad M9 c size b d ((congrFun hI_c.1 1).trans ((hrw_o hd4 (Or.inl (by decide))).trans hd)) hd4 hb hs2 (by omega)) (tt_V ml_X8_153 im_X8_setHandle se_X8_setHandle in_X8 co_X8_setHandle) ⟨rfl, rfl⟩ ⟨rfl, by decide, by decide, by decide⟩ ⟨Nat.le_of_ble_eq_true rfl, Nat.le_of_ble_eq_true rfl⟩ (by decide) rfl rfl rfl rfl rfl (Nat.le_of_ble_eq_true rfl) dX8_layBest_82 ?_
                refine r_mem (M2 := mA M9 136 (hnR (M.1 136) d c b size d)) (by rw [hI_c.1, hrw_h]) ?_
                refine r_aload_n C dX8_layBest_85 rfl 2 rfl ?_
                refine r_pcallV_i (nA := 0) C (Nat.le_of_ble_eq_true rfl) [] (c_X8_unreached l D cs ad (mA M9 136 (hnR (M.1 136) d c b size d))  n ((hnR_o (Or.inl (by decide)) hd4).trans hn) hn8) (tt_V ml_X8_80 im_X8_unreached se_X8_unreached in_X8 co_X8_unreached) ⟨rfl, rfl⟩ ⟨rfl, by decide, by decide, by decide⟩ ⟨Nat.le_of_ble_eq_true rfl, Nat.le_of_ble_eq_true rfl⟩ (by decide) rfl rfl rfl rfl rfl (Nat.le_of_ble_eq_true rfl) dX8_layBest_86 ?_
                refine r_topi (w := (upR (hnR (M.1 136) d c b size d) n)) rfl ?_
                refine r_iconst C ((-1)) dX8_layBest_89 (by decide) ?_
                refine r_icmp_ne C 176 dX8_layBest_90 (by decide) (fun h90 => ?_) (fun h90 => ?_)
                ·
                  refine r_iinc C (nI (c + 1)) [(3, .int (nI (c + 1))), (2, .int (nI (b ^ d))), (0, .ref (ad 135)), (1, .int (nI size))] dX8_layBest_176 (j := 0) rfl (inc_n c 1) (by decide) rfl ?_
                  refine r_goto C 66 dX8_layBest_179 (by decide) ?_
                  refine r_lv (lv2 := [(3, .int (nI (c + 1))), (2, .int (nI (b ^ d))), (0, .ref (ad 135)), (1, .int (nI size))]) [0, 1, 2, 3] rfl ?_
                  have eb := lbS_no (z := M.1 136) (wt := wt) (U := U) (S := S) (H := H) (c := c) (fun q => h90 q.1)
                  have hJ : lbI (M.1 136) n d b size wt U S H M (mA M9 136 (hnR (M.1 136) d c b size d)) (c + 1) := lbI_skip hI_c h76 eb (by rw [mA_eq]) (fun i e1 e2 => mA_ne _ e2) (fun k hk => rfl) (fun i hi => rfl) rfl rfl rfl
                  exact ih_c (c + 1) _ (by omega) (by omega) hJ
                ·
                  have hAB := bnAB (hBB c (by omega) h90)
                  have hlq := lbS_le hBB c (by omega)
                  have m1 : bnA wt U (S c) (H c) n * (lbS (M.1 136) n d b size wt U S H c).2.1 ≤ 1440000 * 200000 := Nat.mul_le_mul hAB.1 hlq.2
                  have m2 : (lbS (M.1 136) n d b size wt U S H c).1 * bnB wt U (S c) (H c) n ≤ 1440000 * 200000 := Nat.mul_le_mul hlq.1 hAB.2.2
                  refine r_aload_n C dX8_layBest_93 rfl 2 rfl ?_
                  refine r_pcallV_v (nA := 0) C (Nat.le_of_ble_eq_true rfl) [] (c_X8_layBound l D cs ad (mA M9 136 (hnR (M.1 136) d c b size d))  n ((hnR_o (Or.inl (by decide)) hd4).trans hn) hn8 wt U (S c) (H c) (hBB c (by omega) h90)) (tt_V ml_X8_156 im_X8_layBound se_X8_layBound in_X8 co_X8_layBound) ⟨rfl, rfl⟩ ⟨rfl, by decide, by decide, by decide⟩ ⟨Nat.le_of_ble_eq_true rfl, Nat.le_of_ble_eq_true rfl⟩ (by decide) rfl rfl rfl rfl rfl (Nat.le_of_ble_eq_true rfl) dX8_layBest_94 ?_
                  refine r_aload_n C dX8_layBest_97 rfl 2 rfl ?_
                  refine r_get C (Cn := RX8) (T := TX8) (N := 18) (id := 135) (by decide) inw_X8 rfl rfl 14 (by decide) rfl fl_X8_150 rfl dX8_layBest_98 ?_
                  refine r_topl (w := lN ((lbS (M.1 136) n d b size wt U S H c).2.1)) (hI_c.2.2.2.2.1) ?_
                  refine r_lconst C (lN 0) dX8_layBest_101 rfl ?_
                  refine r_lcmp C dX8_layBest_102 ?_
                  refine r_if_eq C 128 dX8_layBest_103 (by decide) (fun h103 => ?_) (fun h103 => ?_)
                  ·
                    rw [lgcN_eq (by omega) (by omega)] at h103
                    have hlb : (lbS (M.1 136) n d b size wt U S H c).2.1 = 0 ∨ bnA wt U (S c) (H c) n * (lbS (M.1 136) n d b size wt U S H c).2.1 < (lbS (M.1 136) n d b size wt U S H c).1 * bnB wt U (S c) (H c) n := by first | exact Or.inl h103 | exact Or.inr (by omega)
                    refine r_aload_n C dX8_layBest_128 rfl 2 rfl ?_
                    refine r_aload_n C dX8_layBest_129 rfl 2 rfl ?_
                    refine r_get C (Cn := RX8) (T := TX8) (N := 18) (id := 135) (by decide) inw_X8 rfl rfl 8 (by decide) rfl fl_X8_83 rfl dX8_layBest_130 ?_
                    refine r_topl (w := lN (bnA wt U (S c) (H c) n)) (rfl) ?_
                    refine r_put C (M2 := (mJ (layM (mA M9 136 (hnR (M.1 136) d c b size d)) wt U (S c) (H c) n) 135 13 (lN (bnA wt U (S c) (H c) n)))) (Cn := RX8) (T := TX8) (N := 18) (id := 135) (by decide) inw_X8 tyX8_ok nmX8 rfl rfl 13 (by decide) rfl fl_X8_159 rfl rfl (rfl) (Nat.le_of_ble_eq_true rfl) (fun j hj => ⟨rfl, mJ_ne _ hj⟩) rfl dX8_layBest_133 ?_
                    refine r_aload_n C dX8_layBest_136 rfl 2 rfl ?_
                    refine r_aload_n C dX8_layBest_137 rfl 2 rfl ?_
                    refine r_get C (Cn := RX8) (T := TX8) (N := 18) (id := 135) (by decide) inw_X8 rfl rfl 9 (by decide) rfl fl_X8_87 rfl dX8_layBest_138 ?_
                    refine r_topl (w := lN (bnB wt U (S c) (H c) n)) (rfl) ?_
                    refine r_put C (M2 := (mJ (mJ (layM (mA M9 136 (hnR (M.1 136) d c b size d)) wt U (S c) (H c) n) 135 13 (lN (bnA wt U (S c) (H c) n))) 135 14 (lN (bnB wt U (S c) (H c) n)))) (Cn := RX8) (T := TX8) (N := 18) (id := 135) (by decide) inw_X8 tyX8_ok nmX8 rfl rfl 14 (by decide) rfl fl_X8_150 rfl rfl (rfl) (Nat.le_of_ble_eq_true rfl) (fun j hj => ⟨rfl, mJ_ne _ hj⟩) rfl dX8_layBest_141 ?_
                    refine r_iconst C (nI 0) dX8_layBest_144 (by decide) ?_
                    refine r_istore C [(4, .int (nI 0)), (3, .int (nI c)), (2, .int (nI (b ^ d))), (0, .ref (ad 135)), (1, .int (nI size))] dX8_layBest_145 (by decide) rfl ?_
                    have Lp9 : ∀ (f_p p : Nat), 4 + 1 ≤ p + f_p → p ≤ 4 → VV l D cs ad 5 κ 0 (mA (mJ (mJ (layM (mA M9 136 (hnR (M.1 136) d c b size d)) wt U (S c) (H c) n) 135 13 (lN (bnA wt U (S c) (H c) n))) 135 14 (lN (bnB wt U (S c) (H c) n))) 143 (ovR (M9.1 143) (fun p => (hnR (M.1 136) d c b size d) (50 + p)) 0 p)) 147 [(4, .int (nI p)), (3, .int (nI c)), (2, .int (nI (b ^ d))), (0, .ref (ad 135)), (1, .int (nI size))] [] := by
                      intro f_p
                      induction f_p with
                      | zero => intro p hk1_p hk2_p; exact absurd hk1_p (by omega)
                      | succ f_p ih_p =>
                        intro p hk1_p hk2_p
                        refine r_iload C dX8_layBest_147 0 rfl ?_
                        refine r_iconst C (nI 4) dX8_layBest_149 (by decide) ?_
                        refine r_icmpN_ge C 176 dX8_layBest_150 (by decide) (by omega) (by omega) (fun h150 => ?_) (fun h150 => ?_)
                        ·
                          have hk9 : 4 = p := by omega
                          subst hk9
                          refine r_iinc C (nI (c + 1)) [(3, .int (nI (c + 1))), (4, .int (nI 4)), (2, .int (nI (b ^ d))), (0, .ref (ad 135)), (1, .int (nI size))] dX8_layBest_176 (j := 1) rfl (inc_n c 1) (by decide) rfl ?_
                          refine r_goto C 66 dX8_layBest_179 (by decide) ?_
                          refine r_lv (lv2 := [(3, .int (nI (c + 1))), (2, .int (nI (b ^ d))), (0, .ref (ad 135)), (1, .int (nI size))]) [0, 2, 3, 4] rfl ?_
                          have eb := lbS_yes (z := M.1 136) (wt := wt) (U := U) (S := S) (H := H) ⟨h90, hlb⟩
                          have hJ : lbI (M.1 136) n d b size wt U S H M (mA (mJ (mJ (layM (mA M9 136 (hnR (M.1 136) d c b size d)) wt U (S c) (H c) n) 135 13 (lN (bnA wt U (S c) (H c) n))) 135 14 (lN (bnB wt U (S c) (H c) n))) 143 (ovR (M9.1 143) (fun p => (hnR (M.1 136) d c b size d) (50 + p)) 0 4)) (c + 1) := lbI_take hI_c h76 eb (by rfl) (fun i e1 e2 e3 => by rw [mA_ne _ e3]; exact layM_1 e1 e2) (fun k hk => layM_f hk) (fun i hi => by show (mJ (mJ _ 135 13 _) 135 14 _).2 i = _; rw [mJ_ne _ hi, mJ_ne _ hi]; exact layM_2 hi) (by rfl) (by rfl) (fun p hp => by rw [mA_eq, ovR_in hp, Nat.zero_add]) (by rfl)
                          exact ih_c (c + 1) _ (by omega) (by omega) hJ
                        ·
                          refine r_aload_n C dX8_layBest_153 rfl 3 rfl ?_
                          refine r_get C (Cn := RX8) (T := TX8) (N := 18) (id := 135) (by decide) inw_X8 rfl rfl 15 (by decide) rfl fl_X8_31 rfl dX8_layBest_154 ?_
                          refine r_iload C dX8_layBest_157 0 rfl ?_
                          refine r_aload_n C dX8_layBest_159 rfl 3 rfl ?_
                          refine r_get C (Cn := RX8) (T := TX8) (N := 18) (id := 135) (by decide) inw_X8 rfl rfl 0 (by decide) rfl fl_X8_7 rfl dX8_layBest_160 ?_
                          refine r_bipush C (nI 50) dX8_layBest_163 (by decide) ?_
                          refine r_iload C dX8_layBest_165 0 rfl ?_
                          refine r_iadd C dX8_layBest_167 ?_
                          refine r_topi (nI_add 50 p) ?_
                          refine r_iald C (id := 136) (n := 55) (a := 50 + p) (by decide) rfl (by omega) (by decide) dX8_layBest_168 ?_
                          refine r_topi (w := ((hnR (M.1 136) d c b size d) (50 + p))) (rfl) ?_
                          refine r_iast C (id := 143) (n := 4) (a := p) (by decide) (fun _ => rfl) (by omega) (by decide) dX8_layBest_169 ?_
                          refine r_iinc C (nI (p + 1)) [(4, .int (nI (p + 1))), (3, .int (nI c)), (2, .int (nI (b ^ d))), (0, .ref (ad 135)), (1, .int (nI size))] dX8_layBest_170 (j := 0) rfl (inc_n p 1) (by decide) rfl ?_
                          refine r_goto C 147 dX8_layBest_173 (by decide) ?_
                          refine r_lv (lv2 := [(4, .int (nI (p + 1))), (3, .int (nI c)), (2, .int (nI (b ^ d))), (0, .ref (ad 135)), (1, .int (nI size))]) [0, 1, 2, 3, 4] rfl ?_
                          refine r_mem (M2 := (mA (mJ (mJ (layM (mA M9 136 (hnR (M.1 136) d c b size d)) wt U (S c) (H c) n) 135 13 (lN (bnA wt U (S c) (H c) n))) 135 14 (lN (bnB wt U (S c) (H c) n))) 143 (ovR (M9.1 143) (fun p => (hnR (M.1 136) d c b size d) (50 + p)) 0 (p + 1)))) (by rw [mIA]; exact congrArg (mA _ 143) (ovR_s0 _ _ _)) ?_
                          exact ih_p (p + 1) (by omega) (by omega)
                    refine r_lv (lv2 := [(4, .int (nI 0)), (3, .int (nI c)), (2, .int (nI (b ^ d))), (0, .ref (ad 135)), (1, .int (nI size))]) [0, 1, 2, 3, 4] rfl ?_
                    refine r_mem (M2 := (mA (mJ (mJ (layM (mA M9 136 (hnR (M.1 136) d c b size d)) wt U (S c) (H c) n) 135 13 (lN (bnA wt U (S c) (H c) n))) 135 14 (lN (bnB wt U (S c) (H c) n))) 143 (ovR (M9.1 143) (fun p => (hnR (M.1 136) d c b size d) (50 + p)) 0 0))) (by rw [ovR_0]; exact mA_id rfl) ?_
                    exact Lp9 (4 + 1) 0 (by omega) (by omega)
                  ·
                    rw [lgcN_eq (by omega) (by omega)] at h103
                    refine r_aload_n C dX8_layBest_106 rfl 2 rfl ?_
                    refine r_get C (Cn := RX8) (T := TX8) (N := 18) (id := 135) (by decide) inw_X8 rfl rfl 8 (by decide) rfl fl_X8_83 rfl dX8_layBest_107 ?_
                    refine r_topl (w := lN (bnA wt U (S c) (H c) n)) (rfl) ?_
                    refine r_aload_n C dX8_layBest_110 rfl 2 rfl ?_
                    refine r_get C (Cn := RX8) (T := TX8) (N := 18) (id := 135) (by decide) inw_X8 rfl rfl 14 (by decide) rfl fl_X8_150 rfl dX8_layBest_111 ?_
                    refine r_topl (w := lN ((lbS (M.1 136) n d b size wt U S H c).2.1)) (hI_c.2.2.2.2.1) ?_
                    refine r_lmul C dX8_layBest_114 ?_
                    refine r_topl (w := lN ((bnA wt U (S c) (H c) n) * ((lbS (M.1 136) n d b size wt U S H c).2.1))) (lN_mul _ _) ?_
                    refine r_aload_n C dX8_layBest_115 rfl 2 rfl ?_
                    refine r_get C (Cn := RX8) (T := TX8) (N := 18) (id := 135) (by decide) inw_X8 rfl rfl 13 (by decide) rfl fl_X8_159 rfl dX8_layBest_116 ?_
                    refine r_topl (w := lN ((lbS (M.1 136) n d b size wt U S H c).1)) (hI_c.2.2.2.2.2.1 (by omega)) ?_
                    refine r_aload_n C dX8_layBest_119 rfl 2 rfl ?_
                    refine r_get C (Cn := RX8) (T := TX8) (N := 18) (id := 135) (by decide) inw_X8 rfl rfl 9 (by decide) rfl fl_X8_87 rfl dX8_layBest_120 ?_
                    refine r_topl (w := lN (bnB wt U (S c) (H c) n)) (rfl) ?_
                    refine r_lmul C dX8_layBest_123 ?_
                    refine r_topl (w := lN (((lbS (M.1 136) n d b size wt U S H c).1) * (bnB wt U (S c) (H c) n))) (lN_mul _ _) ?_
                    refine r_lcmp C dX8_layBest_124 ?_
                    refine r_if_ge C 176 dX8_layBest_125 (by decide) (fun h125 => ?_) (fun h125 => ?_)
                    ·
                      rw [lgcN_ge (by omega) (by omega)] at h125
                      refine r_iinc C (nI (c + 1)) [(3, .int (nI (c + 1))), (2, .int (nI (b ^ d))), (0, .ref (ad 135)), (1, .int (nI size))] dX8_layBest_176 (j := 0) rfl (inc_n c 1) (by decide) rfl ?_
                      refine r_goto C 66 dX8_layBest_179 (by decide) ?_
                      refine r_lv (lv2 := [(3, .int (nI (c + 1))), (2, .int (nI (b ^ d))), (0, .ref (ad 135)), (1, .int (nI size))]) [0, 1, 2, 3] rfl ?_
                      have eb : lbS (M.1 136) n d b size wt U S H (c + 1) = lbS (M.1 136) n d b size wt U S H c := lbS_no (by rintro ⟨_, e2 | e2⟩ <;> omega)
                      have hJ : lbI (M.1 136) n d b size wt U S H M (layM (mA M9 136 (hnR (M.1 136) d c b size d)) wt U (S c) (H c) n) (c + 1) := lbI_skip hI_c h76 eb (by rfl) (fun i e1 e2 => layM_1 e1 e2) (fun k hk => layM_f hk) (fun i hi => layM_2 hi) (by rfl) (by rfl) (by rfl)
                      exact ih_c (c + 1) _ (by omega) (by omega) hJ
                    ·
                      rw [lgcN_ge (by omega) (by omega)] at h125
                      have hlb : (lbS (M.1 136) n d b size wt U S H c).2.1 = 0 ∨ bnA wt U (S c) (H c) n * (lbS (M.1 136) n d b size wt U S H c).2.1 < (lbS (M.1 136) n d b size wt U S H c).1 * bnB wt U (S c) (H c) n := by first | exact Or.inl h103 | exact Or.inr (by omega)
                      refine r_aload_n C dX8_layBest_128 rfl 2 rfl ?_
                      refine r_aload_n C dX8_layBest_129 rfl 2 rfl ?_
                      refine r_get C (Cn := RX8) (T := TX8) (N := 18) (id := 135) (by decide) inw_X8 rfl rfl 8 (by decide) rfl fl_X8_83 rfl dX8_layBest_130 ?_
                      refine r_topl (w := lN (bnA wt U (S c) (H c) n)) (rfl) ?_
                      refine r_put C (M2 := (mJ (layM (mA M9 136 (hnR (M.1 136) d c b size d)) wt U (S c) (H c) n) 135 13 (lN (bnA wt U (S c) (H c) n)))) (Cn := RX8) (T := TX8) (N := 18) (id := 135) (by decide) inw_X8 tyX8_ok nmX8 rfl rfl 13 (by decide) rfl fl_X8_159 rfl rfl (rfl) (Nat.le_of_ble_eq_true rfl) (fun j hj => ⟨rfl, mJ_ne _ hj⟩) rfl dX8_layBest_133 ?_
                      refine r_aload_n C dX8_layBest_136 rfl 2 rfl ?_
                      refine r_aload_n C dX8_layBest_137 rfl 2 rfl ?_
                      refine r_get C (Cn := RX8) (T := TX8) (N := 18) (id := 135) (by decide) inw_X8 rfl rfl 9 (by decide) rfl fl_X8_87 rfl dX8_layBest_138 ?_
                      refine r_topl (w := lN (bnB wt U (S c) (H c) n)) (rfl) ?_
                      refine r_put C (M2 := (mJ (mJ (layM (mA M9 136 (hnR (M.1 136) d c b size d)) wt U (S c) (H c) n) 135 13 (lN (bnA wt U (S c) (H c) n))) 135 14 (lN (bnB wt U (S c) (H c) n)))) (Cn := RX8) (T := TX8) (N := 18) (id := 135) (by decide) inw_X8 tyX8_ok nmX8 rfl rfl 14 (by decide) rfl fl_X8_150 rfl rfl (rfl) (Nat.le_of_ble_eq_true rfl) (fun j hj => ⟨rfl, mJ_ne _ hj⟩) rfl dX8_layBest_141 ?_
                      refine r_iconst C (nI 0) dX8_layBest_144 (by decide) ?_
                      refine r_istore C [(4, .int (nI 0)), (3, .int (nI c)), (2, .int (nI (b ^ d))), (0, .ref (ad 135)), (1, .int (nI size))] dX8_layBest_145 (by decide) rfl ?_
                      have Lp9 : ∀ (f_p p : Nat), 4 + 1 ≤ p + f_p → p ≤ 4 → VV l D cs ad 5 κ 0 (mA (mJ (mJ (layM (mA M9 136 (hnR (M.1 136) d c b size d)) wt U (S c) (H c) n) 135 13 (lN (bnA wt U (S c) (H c) n))) 135 14 (lN (bnB wt U (S c) (H c) n))) 143 (ovR (M9.1 143) (fun p => (hnR (M.1 136) d c b size d) (50 + p)) 0 p)) 147 [(4, .int (nI p)), (3, .int (nI c)), (2, .int (nI (b ^ d))), (0, .ref (ad 135)), (1, .int (nI size))] [] := by
                        intro f_p
                        induction f_p with
                        | zero => intro p hk1_p hk2_p; exact absurd hk1_p (by omega)
                        | succ f_p ih_p =>
                          intro p hk1_p hk2_p
                          refine r_iload C dX8_layBest_147 0 rfl ?_
                          refine r_iconst C (nI 4) dX8_layBest_149 (by decide) ?_
                          refine r_icmpN_ge C 176 dX8_layBest_150 (by decide) (by omega) (by omega) (fun h150 => ?_) (fun h150 => ?_)
                          ·
                            have hk9 : 4 = p := by omega
                            subst hk9
                            refine r_iinc C (nI (c + 1)) [(3, .int (nI (c + 1))), (4, .int (nI 4)), (2, .int (nI (b ^ d))), (0, .ref (ad 135)), (1, .int (nI size))] dX8_layBest_176 (j := 1) rfl (inc_n c 1) (by decide) rfl ?_
                            refine r_goto C 66 dX8_layBest_179 (by decide) ?_
                            refine r_lv (lv2 := [(3, .int (nI (c + 1))), (2, .int (nI (b ^ d))), (0, .ref (ad 135)), (1, .int (nI size))]) [0, 2, 3, 4] rfl ?_
                            have eb := lbS_yes (z := M.1 136) (wt := wt) (U := U) (S := S) (H := H) ⟨h90, hlb⟩
                            have hJ : lbI (M.1 136) n d b size wt U S H M (mA (mJ (mJ (layM (mA M9 136 (hnR (M.1 136) d c b size d)) wt U (S c) (H c) n) 135 13 (lN (bnA wt U (S c) (H c) n))) 135 14 (lN (bnB wt U (S c) (H c) n))) 143 (ovR (M9.1 143) (fun p => (hnR (M.1 136) d c b size d) (50 + p)) 0 4)) (c + 1) := lbI_take hI_c h76 eb (by rfl) (fun i e1 e2 e3 => by rw [mA_ne _ e3]; exact layM_1 e1 e2) (fun k hk => layM_f hk) (fun i hi => by show (mJ (mJ _ 135 13 _) 135 14 _).2 i = _; rw [mJ_ne _ hi, mJ_ne _ hi]; exact layM_2 hi) (by rfl) (by rfl) (fun p hp => by rw [mA_eq, ovR_in hp, Nat.zero_add]) (by rfl)
                            exact ih_c (c + 1) _ (by omega) (by omega) hJ
                          ·
                            refine r_aload_n C dX8_layBest_153 rfl 3 rfl ?_
                            refine r_get C (Cn := RX8) (T := TX8) (N := 18) (id := 135) (by decide) inw_X8 rfl rfl 15 (by decide) rfl fl_X8_31 rfl dX8_layBest_154 ?_
                            refine r_iload C dX8_layBest_157 0 rfl ?_
                            refine r_aload_n C dX8_layBest_159 rfl 3 rfl ?_
                            refine r_get C (Cn := RX8) (T := TX8) (N := 18) (id := 135) (by decide) inw_X8 rfl rfl 0 (by decide) rfl fl_X8_7 rfl dX8_layBest_160 ?_
                            refine r_bipush C (nI 50) dX8_layBest_163 (by decide) ?_
                            refine r_iload C dX8_layBest_165 0 rfl ?_
                            refine r_iadd C dX8_layBest_167 ?_
                            refine r_topi (nI_add 50 p) ?_
                            refine r_iald C (id := 136) (n := 55) (a := 50 + p) (by decide) rfl (by omega) (by decide) dX8_layBest_168 ?_
                            refine r_topi (w := ((hnR (M.1 136) d c b size d) (50 + p))) (rfl) ?_
                            refine r_iast C (id := 143) (n := 4) (a := p) (by decide) (fun _ => rfl) (by omega) (by decide) dX8_layBest_169 ?_
                            refine r_iinc C (nI (p + 1)) [(4, .int (nI (p + 1))), (3, .int (nI c)), (2, .int (nI (b ^ d))), (0, .ref (ad 135)), (1, .int (nI size))] dX8_layBest_170 (j := 0) rfl (inc_n p 1) (by decide) rfl ?_
                            refine r_goto C 147 dX8_layBest_173 (by decide) ?_
                            refine r_lv (lv2 := [(4, .int (nI (p + 1))), (3, .int (nI c)), (2, .int (nI (b ^ d))), (0, .ref (ad 135)), (1, .int (nI size))]) [0, 1, 2, 3, 4] rfl ?_
                            refine r_mem (M2 := (mA (mJ (mJ (layM (mA M9 136 (hnR (M.1 136) d c b size d)) wt U (S c) (H c) n) 135 13 (lN (bnA wt U (S c) (H c) n))) 135 14 (lN (bnB wt U (S c) (H c) n))) 143 (ovR (M9.1 143) (fun p => (hnR (M.1 136) d c b size d) (50 + p)) 0 (p + 1)))) (by rw [mIA]; exact congrArg (mA _ 143) (ovR_s0 _ _ _)) ?_
                            exact ih_p (p + 1) (by omega) (by omega)
                      refine r_lv (lv2 := [(4, .int (nI 0)), (3, .int (nI c)), (2, .int (nI (b ^ d))), (0, .ref (ad 135)), (1, .int (nI size))]) [0, 1, 2, 3, 4] rfl ?_
                      refine r_mem (M2 := (mA (mJ (mJ (layM (mA M9 136 (hnR (M.1 136) d c b size d)) wt U (S c) (H c) n) 135 13 (lN (bnA wt U (S c) (H c) n))) 135 14 (lN (bnB wt U (S c) (H c) n))) 143 (ovR (M9.1 143) (fun p => (hnR (M.1 136) d c b size d) (50 + p)) 0 0))) (by rw [ovR_0]; exact mA_id rfl) ?_
                      exact Lp9 (4 + 1) 0 (by omega) (by omega)
        refine r_lv (lv2 := [(3, .int (nI 0)), (2, .int (nI (b ^ d))), (0, .ref (ad 135)), (1, .int (nI size))]) [0, 1, 2, 3] rfl ?_
        have hJ0 : lbI (M.1 136) n d b size wt U S H M (mA (mA (mJ M 135 14 (lN 0)) 144 (ovR (M.1 144) (fun p => M.1 136 (50 + p)) 0 4)) 143 (emA (M.1 143) 4)) 0 := ⟨rfl, fun q => absurd q (by decide), fun p hp => ovR_in0 (z := M.1 144) (h := fun p => M.1 136 (50 + p)) hp, fun p hp => if_pos hp, rfl, fun q => absurd q (Nat.lt_irrefl 0), fun i e1 e2 e3 e4 e5 e6 => by rw [mA_ne _ e5, mA_ne _ e6]; rfl, fun k hk => rfl, fun i hi => mJ_ne _ hi, rfl⟩
        exact Lc ((b ^ d) + 1) 0 _ (by omega) (by omega) hJ0
      ·
        have c9 := cdN_le (d := d) hb5 hk2
        have c8 := p5_le hk2
        refine r_iload_n C dX8_layBest_14 rfl 1 rfl ?_
        refine r_iload_n C dX8_layBest_15 rfl 0 rfl ?_
        refine r_aload_n C dX8_layBest_16 rfl 2 rfl ?_
        refine r_get C (Cn := RX8) (T := TX8) (N := 18) (id := 135) (by decide) inw_X8 rfl rfl 0 (by decide) rfl fl_X8_7 rfl dX8_layBest_17 ?_
        refine r_iconst C (nI 1) dX8_layBest_20 (by decide) ?_
        refine r_iald C (id := 136) (n := 55) (a := 1) (by decide) rfl (by decide) (by decide) dX8_layBest_21 ?_
        refine r_topi (w := (M.1 136 1)) (rfl) ?_
        refine r_topi hd ?_
        refine r_icmpN_ge C 33 dX8_layBest_22 (by decide) (by omega) (by omega) (fun h22 => ?_) (fun h22 => ?_)
        ·
          refine r_iconst C (nI 1) dX8_layBest_33 (by decide) ?_
          refine r_topi (w := nI (if k < d then b else 1)) (congrArg nI (by first | rw [if_pos (by omega)] | rw [if_neg (by omega)])) ?_
          refine r_imul C dX8_layBest_34 ?_
          refine r_topi (pk_mul (cdN d b k) (if k < d then b else 1)) ?_
          refine r_istore_n C [(2, .int (nI ((cdN d b k) * (if k < d then b else 1)))), (3, .int (nI k)), (0, .ref (ad 135)), (1, .int (nI size))] dX8_layBest_35 rfl (by decide) rfl ?_
          refine r_aload_n C dX8_layBest_36 rfl 2 rfl ?_
          refine r_get C (Cn := RX8) (T := TX8) (N := 18) (id := 135) (by decide) inw_X8 rfl rfl 16 (by decide) rfl fl_X8_34 rfl dX8_layBest_37 ?_
          refine r_iload_n C dX8_layBest_40 rfl 1 rfl ?_
          refine r_aload_n C dX8_layBest_41 rfl 2 rfl ?_
          refine r_get C (Cn := RX8) (T := TX8) (N := 18) (id := 135) (by decide) inw_X8 rfl rfl 0 (by decide) rfl fl_X8_7 rfl dX8_layBest_42 ?_
          refine r_bipush C (nI 50) dX8_layBest_45 (by decide) ?_
          refine r_iload_n C dX8_layBest_47 rfl 1 rfl ?_
          refine r_iadd C dX8_layBest_48 ?_
          refine r_topi (nI_add 50 k) ?_
          refine r_iald C (id := 136) (n := 55) (a := 50 + k) (by decide) rfl (by omega) (by decide) dX8_layBest_49 ?_
          refine r_topi (w := (M.1 136 (50 + k))) (rfl) ?_
          refine r_iast C (id := 144) (n := 4) (a := k) (by decide) (fun _ => rfl) (by omega) (by decide) dX8_layBest_50 ?_
          refine r_aload_n C dX8_layBest_51 rfl 2 rfl ?_
          refine r_get C (Cn := RX8) (T := TX8) (N := 18) (id := 135) (by decide) inw_X8 rfl rfl 15 (by decide) rfl fl_X8_31 rfl dX8_layBest_52 ?_
          refine r_iload_n C dX8_layBest_55 rfl 1 rfl ?_
          refine r_iconst C (nI 0) dX8_layBest_56 (by decide) ?_
          refine r_iast C (id := 143) (n := 4) (a := k) (by decide) (fun _ => rfl) (by omega) (by decide) dX8_layBest_57 ?_
          refine r_iinc C (nI (k + 1)) [(3, .int (nI (k + 1))), (2, .int (nI ((cdN d b k) * (if k < d then b else 1)))), (0, .ref (ad 135)), (1, .int (nI size))] dX8_layBest_58 (j := 1) rfl (inc_n k 1) (by decide) rfl ?_
          refine r_goto C 9 dX8_layBest_61 (by decide) ?_
          refine r_lv (lv2 := [(3, .int (nI (k + 1))), (2, .int (nI (cdN d b (k + 1)))), (0, .ref (ad 135)), (1, .int (nI size))]) [0, 1, 2, 3] rfl ?_
          refine r_mem (M2 := (mA (mA (mJ M 135 14 (lN 0)) 144 (ovR (M.1 144) (fun p => M.1 136 (50 + p)) 0 (k + 1))) 143 (emA (M.1 143) (k + 1)))) (by rw [mAI _ _ _ (by decide), mIA, mIA, emA_s]; exact congrArg (fun f => mA (mA _ 144 f) 143 _) (ovR_s0 _ _ _)) ?_
          exact ih (k + 1) (by omega) (by omega)
        ·
          refine r_iconst C (nI 2) dX8_layBest_25 (by decide) ?_
          refine r_iload_n C dX8_layBest_26 rfl 3 rfl ?_
          refine r_imul C dX8_layBest_27 ?_
          refine r_topi (pk_mul 2 size) ?_
          refine r_iconst C (nI 1) dX8_layBest_28 (by decide) ?_
          refine r_iadd C dX8_layBest_29 ?_
          refine r_topi (nI_add (2 * size) 1) ?_
          refine r_topi (w := nI b) (congrArg nI hb) ?_
          refine r_goto C 34 dX8_layBest_30 (by decide) ?_
          refine r_topi (w := nI (if k < d then b else 1)) (congrArg nI (by first | rw [if_pos (by omega)] | rw [if_neg (by omega)])) ?_
          refine r_imul C dX8_layBest_34 ?_
          refine r_topi (pk_mul (cdN d b k) (if k < d then b else 1)) ?_
          refine r_istore_n C [(2, .int (nI ((cdN d b k) * (if k < d then b else 1)))), (3, .int (nI k)), (0, .ref (ad 135)), (1, .int (nI size))] dX8_layBest_35 rfl (by decide) rfl ?_
          refine r_aload_n C dX8_layBest_36 rfl 2 rfl ?_
          refine r_get C (Cn := RX8) (T := TX8) (N := 18) (id := 135) (by decide) inw_X8 rfl rfl 16 (by decide) rfl fl_X8_34 rfl dX8_layBest_37 ?_
          refine r_iload_n C dX8_layBest_40 rfl 1 rfl ?_
          refine r_aload_n C dX8_layBest_41 rfl 2 rfl ?_
          refine r_get C (Cn := RX8) (T := TX8) (N := 18) (id := 135) (by decide) inw_X8 rfl rfl 0 (by decide) rfl fl_X8_7 rfl dX8_layBest_42 ?_
          refine r_bipush C (nI 50) dX8_layBest_45 (by decide) ?_
          refine r_iload_n C dX8_layBest_47 rfl 1 rfl ?_
          refine r_iadd C dX8_layBest_48 ?_
          refine r_topi (nI_add 50 k) ?_
          refine r_iald C (id := 136) (n := 55) (a := 50 + k) (by decide) rfl (by omega) (by decide) dX8_layBest_49 ?_
          refine r_topi (w := (M.1 136 (50 + k))) (rfl) ?_
          refine r_iast C (id := 144) (n := 4) (a := k) (by decide) (fun _ => rfl) (by omega) (by decide) dX8_layBest_50 ?_
          refine r_aload_n C dX8_layBest_51 rfl 2 rfl ?_
          refine r_get C (Cn := RX8) (T := TX8) (N := 18) (id := 135) (by decide) inw_X8 rfl rfl 15 (by decide) rfl fl_X8_31 rfl dX8_layBest_52 ?_
          refine r_iload_n C dX8_layBest_55 rfl 1 rfl ?_
          refine r_iconst C (nI 0) dX8_layBest_56 (by decide) ?_
          refine r_iast C (id := 143) (n := 4) (a := k) (by decide) (fun _ => rfl) (by omega) (by decide) dX8_layBest_57 ?_
          refine r_iinc C (nI (k + 1)) [(3, .int (nI (k + 1))), (2, .int (nI ((cdN d b k) * (if k < d then b else 1)))), (0, .ref (ad 135)), (1, .int (nI size))] dX8_layBest_58 (j := 1) rfl (inc_n k 1) (by decide) rfl ?_
          refine r_goto C 9 dX8_layBest_61 (by decide) ?_
          refine r_lv (lv2 := [(3, .int (nI (k + 1))), (2, .int (nI (cdN d b (k + 1)))), (0, .ref (ad 135)), (1, .int (nI size))]) [0, 1, 2, 3] rfl ?_
          refine r_mem (M2 := (mA (mA (mJ M 135 14 (lN 0)) 144 (ovR (M.1 144) (fun p => M.1 136 (50 + p)) 0 (k + 1))) 143 (emA (M.1 143) (k + 1)))) (by rw [mAI _ _ _ (by decide), mIA, mIA, emA_s]; exact congrArg (fun f => mA (mA _ 144 f) 143 _) (ovR_s0 _ _ _)) ?_
          exact ih (k + 1) (by omega) (by omega)
  refine r_lv (lv2 := [(3, .int (nI 0)), (2, .int (nI (cdN d b 0))), (0, .ref (ad 135)), (1, .int (nI size))]) [0, 1, 2, 3] rfl ?_
  refine r_mem (M2 := (mA (mA (mJ M 135 14 (lN 0)) 144 (ovR (M.1 144) (fun p => M.1 136 (50 + p)) 0 0)) 143 (emA (M.1 143) 0))) (by rw [ovR_0, emA_0]; exact mA_id2 rfl rfl) ?_
  exact Lk (4 + 1) 0 (by omega) (by omega)
