/-! ===== the class: the best handle (written by wip/whole/gen/cls12.py) ===== -/
def oH (M M2 : Mm) : Prop := ∀ i, ¬ (131 ≤ i ∧ i ≤ 134) → M2.1 i = M.1 i ∧ M2.2 i = M.2 i
theorem oH.rf (M : Mm) : oH M M := fun _ _ => ⟨rfl, rfl⟩
theorem oH.tr {M M2 M3 : Mm} (h : oH M M2) (h2 : oH M2 M3) : oH M M3 := fun i hi => ⟨(h2 i hi).1.trans (h i hi).1, (h2 i hi).2.trans (h i hi).2⟩
theorem oB.H {b : Nat} {M M2 : Mm} (h : oB b M M2) (hb : 131 ≤ b ∧ b ≤ 134) : oH M M2 := fun i hi => ⟨h.1 i (fun e => hi (by rw [e]; exact hb)), h.2 i (fun e => hi (by rw [e]; exact hb))⟩
theorem o1.H {b : Nat} {M M2 : Mm} (h : o1 b M M2) (hb : 131 ≤ b ∧ b ≤ 134) : oH M M2 := fun i hi => ⟨h.1 i (fun e => hi (by rw [e]; exact hb)), by rw [h.2]⟩
section HS
variable (z : Nat → Int32) (n d b size : Nat) (wt U : Nat → Nat) (S : Nat → Nat → Nat) (H : Nat → Nat)
/-- the least bound among the first codes as the class finds it, and its code and 1 -/
def hsS : Nat → (Nat × Nat × Nat) × Nat
  | 0 => ((0, 0, 0), 0)
  | c + 1 => if upR (hnR z d c b size d) n = -1 ∧ ((hsS c).2 = 0 ∨ (bcS wt U (S c) (H c) n).1 * (hsS c).1.2.1 < (hsS c).1.1 * (bcS wt U (S c) (H c) n).2.1) then (bcS wt U (S c) (H c) n, c + 1) else hsS c
def bsE (t p : Nat) : Int32 := if t = 0 then nI 0 else trI d (t - 1) b size p
end HS
def lsV (M : Mm) (s : (Nat × Nat × Nat) × Nat) : Prop := (s.2 = 0 → bdN M 132) ∧ (0 < s.2 → bdV M 132 s.1)
theorem bd_k {M M2 : Mm} {b : Nat} {q : Nat × Nat × Nat} (h : bdV M b q) (h1 : M2.1 b = M.1 b) (h2 : M2.2 b = M.2 b) : bdV M2 b q := by
  unfold bdV; rw [h1, h2]; exact h
theorem bd_kN {M M2 : Mm} {b : Nat} (h : bdN M b) (h1 : M2.1 b = M.1 b) (h2 : M2.2 b = M.2 b) : bdN M2 b := by
  unfold bdN; rw [h1, h2]; exact h
theorem ls_k {M M2 : Mm} {s : (Nat × Nat × Nat) × Nat} (h : lsV M s) (h1 : M2.1 132 = M.1 132) (h2 : M2.2 132 = M.2 132) : lsV M2 s := ⟨fun q => bd_kN (h.1 q) h1 h2, fun q => bd_k (h.2 q) h1 h2⟩
section RN
variable {z : Nat → Int32} {n d b size : Nat} {wt U : Nat → Nat} {S : Nat → Nat → Nat} {H : Nat → Nat} {M M3 M4 M5 : Mm} {c : Nat}
def rnS (z : Nat → Int32) (n d b size : Nat) (wt U : Nat → Nat) (S : Nat → Nat → Nat) (H : Nat → Nat) (M M3 : Mm) (c t : Nat) : Prop := oH M M3 ∧ (∀ p, p < 4 → M3.1 133 p = trI d c b size p) ∧ lsV M3 (hsS z n d b size wt U S H t) ∧ ∀ p, p < 4 → M3.1 131 p = bsE d b size (hsS z n d b size wt U S H t).2 p
theorem rn_go (h : rnS z n d b size wt U S H M M4 c (c + 1)) (hg : goP d c b size M4 M5) : rnS z n d b size wt U S H M M5 (c + 1) (c + 1) := ⟨h.1.tr (hg.1.H (by decide)), hg.2, ls_k h.2.2.1 (hg.1.1 132 (by decide)) (by rw [hg.1.2]), fun p hp => by rw [hg.1.1 131 (by decide)]; exact h.2.2.2 p hp⟩
theorem rn_keep (h : rnS z n d b size wt U S H M M3 c c) (ho : oB 134 M3 M4) (he : hsS z n d b size wt U S H (c + 1) = hsS z n d b size wt U S H c) : rnS z n d b size wt U S H M M4 c (c + 1) := by
  unfold rnS; rw [he]
  exact ⟨h.1.tr (ho.H (by decide)), fun p hp => by rw [ho.1 133 (by decide)]; exact h.2.1 p hp, ls_k h.2.2.1 (ho.1 132 (by decide)) (ho.2 132 (by decide)), fun p hp => by rw [ho.1 131 (by decide)]; exact h.2.2.2 p hp⟩
theorem rn_take {M6 : Mm} {q : Nat × Nat × Nat} (h : rnS z n d b size wt U S H M M3 c c) (ho : oB 134 M3 M4) (h5 : oB 132 M4 M5 ∧ bdV M5 132 q) (e : M6 = mA M5 131 (va_cpy (M5.1 133) (M5.1 131) 0 0 4)) (he : hsS z n d b size wt U S H (c + 1) = (q, c + 1)) : rnS z n d b size wt U S H M M6 c (c + 1) := by
  subst e
  unfold rnS; rw [he]
  refine ⟨(h.1.tr (ho.H (by decide))).tr ((h5.1.H (by decide)).tr (fun i hi => ⟨mA_ne _ (fun e => hi (by rw [e]; decide)), rfl⟩)), fun p hp => ?_, ⟨fun q => absurd q (Nat.succ_ne_zero c), fun _ => bd_k h5.2 (mA_ne _ (by decide)) rfl⟩, fun p hp => ?_⟩
  · rw [mA_ne _ (by decide), h5.1.1 133 (by decide), ho.1 133 (by decide)]; exact h.2.1 p hp
  · rw [mA_eq, cy_at hp, h5.1.1 133 (by decide), ho.1 133 (by decide), h.2.1 p hp]; exact (if_neg (Nat.succ_ne_zero c)).symm
theorem hs_le (hB : lbHyp z n d b size wt U S H) : ∀ {c : Nat}, c ≤ b ^ d → 0 < (hsS z n d b size wt U S H c).2 → (hsS z n d b size wt U S H c).1.1 ≤ 1440000 ∧ 0 < (hsS z n d b size wt U S H c).1.2.1 ∧ (hsS z n d b size wt U S H c).1.2.1 ≤ 200000
  | 0, _, h => absurd h (Nat.lt_irrefl 0)
  | c + 1, hc, h => by
    unfold hsS at h ⊢
    split at h
    · rename_i q
      rw [if_pos q]
      have h9 := bcS_le (hB c (by omega) q.1) n (Nat.le_refl n)
      exact ⟨h9.1, h9.2.1, h9.2.2.1⟩
    · rename_i q
      rw [if_neg q]; exact hs_le hB (by omega) h
/-- the row with the trial's handle -/
theorem tr_gv (hg : gv M 0 (gH 0) z n d) (hn : n ≤ 8) (hd : d ≤ 4) (hz : ∀ p, d ≤ p → p < 4 → z (50 + p) = nI 0) (h : rnS z n d b size wt U S H M M3 c c) : gv M3 0 133 (hnR z d c b size d) n d := by
  obtain ⟨g1, g2, g3, g4, g5, g6⟩ := hg
  refine ⟨by rw [(h.1 _ (by simp only [gO]; omega)).1]; exact g1, by rw [(h.1 _ (by simp only [gO]; omega)).1]; exact g2, fun v hv => ?_, fun v hv => ?_, fun v p hv hp => ?_, fun p hp => ?_⟩
  · rw [(h.1 _ (by simp only [gN]; omega)).1, g3 v hv]; unfold hnR; rw [if_neg (by omega)]
  · rw [(h.1 _ (by simp only [gW]; omega)).1, g4 v hv]; unfold hnR; rw [if_neg (by omega)]
  · rw [(h.1 _ (by simp only [gR]; omega)).1, g5 v p hv hp]; unfold hnR; rw [if_neg (by omega)]
  · rw [h.2.1 p hp, tr_hn hz hp]
def hsR (s : (Nat × Nat × Nat) × Nat) : (Nat × Nat × Nat) × Nat := (rdQ s.1, s.2)
/-- what run leaves -/
def rnP (d b size : Nat) (s : (Nat × Nat × Nat) × Nat) (M M2 : Mm) : Prop := oH M M2 ∧ lsV M2 (hsR s) ∧ ∀ p, p < 4 → M2.1 131 p = bsE d b size s.2 p
theorem rn_e0 (h : rnS z n d b size wt U S H M M3 c c) (ht : (hsS z n d b size wt U S H c).2 = 0) (e : M4 = M3) : rnP d b size (hsS z n d b size wt U S H c) M M4 := by
  subst e
  exact ⟨h.1, ⟨fun _ => h.2.2.1.1 ht, fun q => absurd (show 0 < (hsS z n d b size wt U S H c).2 from q) (by omega)⟩, h.2.2.2⟩
theorem rn_e1 (h : rnS z n d b size wt U S H M M3 c c) (ht : 0 < (hsS z n d b size wt U S H c).2) (e : oB 132 M3 M4 ∧ bdV M4 132 (rdQ (hsS z n d b size wt U S H c).1)) : rnP d b size (hsS z n d b size wt U S H c) M M4 :=
  ⟨h.1.tr (e.1.H (by decide)), ⟨fun q => absurd (show (hsS z n d b size wt U S H c).2 = 0 from q) (by omega), fun _ => e.2⟩, fun p hp => by rw [e.1.1 131 (by decide)]; exact h.2.2.2 p hp⟩
end RN
