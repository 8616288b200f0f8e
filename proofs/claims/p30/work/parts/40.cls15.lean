/-! ===== the class: hashes (written by wip/whole/gen/cls15.py) ===== -/
theorem hsC_y {c : Nat → Bool} {v : Nat → Int64} {h : Int64} {k : Nat} (hc : c k = true) : 31 * hsC c v h k + v k = hsC c v h (k + 1) := (if_pos hc).symm
theorem hsC_n {c : Nat → Bool} {v : Nat → Int64} {h : Int64} {k : Nat} (hc : c k = false) : hsC c v h (k + 1) = hsC c v h k := if_neg (by rw [hc]; decide)
theorem hsV_gap {v : Nat → Int64} {h : Int64} : hsC cV v h 6 = hsC cV v h 10 := by rw [hsC_n (k := 9) rfl, hsC_n (k := 8) rfl, hsC_n (k := 7) rfl, hsC_n (k := 6) rfl]
theorem hsB_gap {v : Nat → Int64} {h : Int64} : hsC cB v h 2 = hsC cB v h 10 := by rw [hsC_n (k := 9) rfl, hsC_n (k := 8) rfl, hsC_n (k := 7) rfl, hsC_n (k := 6) rfl, hsC_n (k := 5) rfl, hsC_n (k := 4) rfl, hsC_n (k := 3) rfl, hsC_n (k := 2) rfl]
theorem cV_lo {w : Nat} (h : w < 6) : cV w = true := by unfold cV; simp [h]
theorem cV_hi {w : Nat} (h : 10 ≤ w) : cV w = true := by unfold cV; simp [show 9 < w by omega]
theorem cB_hi {w : Nat} (h : 10 ≤ w) : cB w = true := by unfold cB; simp [show 9 < w by omega]
theorem hsC_cg {c : Nat → Bool} {v w : Nat → Int64} {h : Int64} : ∀ {k : Nat}, (∀ j, j < k → v j = w j) → hsC c v h k = hsC c w h k
  | 0, _ => rfl
  | k + 1, e => by
    unfold hsC
    rw [hsC_cg (k := k) (fun j hj => e j (by omega)), e k (by omega)]
theorem tl_p {M : Mm} {b : Nat} {z : Nat → Int32} {n : Nat} {wt U S : Nat → Nat} {H p : Nat} (h : tlP M b z n wt U S H) : (if p = 0 then M.2 b 1 else if p = 1 then M.2 b 2 else (M.1 b 3).toInt64) = bdz z n wt U S H p := by
  unfold bdz
  by_cases hr : rsz z n = nI 0
  · rw [if_pos hr]
    obtain ⟨h1, h2, h3, h4⟩ := h.1 hr
    rw [h2, h3, h4]
    rfl
  · rw [if_neg hr]
    obtain ⟨h1, h2, h3, h4⟩ := h.2 hr
    rw [h2, h3, h4]
    split
    · rfl
    · split <;> rfl
/-- what the search for a handle leaves, in the reference's words -/
def rnA (z : Nat → Int32) (n d b size : Nat) (wt U : Nat → Nat) (S : Nat → Nat → Nat) (H : Nat → Nat) (M M2 : Mm) : Prop := oH M M2 ∧ (0 < (lbF z n d b size wt U S H).2.1 → M2.1 132 0 = bI true ∧ M2.2 132 1 = lN (lbF z n d b size wt U S H).1 ∧ M2.2 132 2 = lN (lbF z n d b size wt U S H).2.1) ∧ (¬ 0 < (lbF z n d b size wt U S H).2.1 → M2.1 132 0 = bI false ∧ M2.2 132 1 = -1 ∧ M2.2 132 2 = -1) ∧ ∀ p, p < 4 → M2.1 131 p = bsD z d b size (lbF z n d b size wt U S H).2.2 p
theorem rn_A0 {z : Nat → Int32} {n d b size : Nat} {wt U : Nat → Nat} {S : Nat → Nat → Nat} {H : Nat → Nat} {M M2 : Mm} (h : rnP d b size ((0, 0, 0), 0) M M2) (hm : ¬ mfR z n = -1) : rnA z n d b size wt U S H M M2 := by
  have e : lbF z n d b size wt U S H = (0, 0, 0) := if_neg hm
  unfold rnA; rw [e]
  have h2 := h.2.1.1 rfl
  exact ⟨h.1, fun q => absurd q (Nat.lt_irrefl 0), fun _ => ⟨h2.1, h2.2.1, h2.2.2.1⟩, h.2.2⟩
theorem rn_A1 {z : Nat → Int32} {n d b size : Nat} {wt U : Nat → Nat} {S : Nat → Nat → Nat} {H : Nat → Nat} {M M2 : Mm} (hd4 : d ≤ 4) (hz0 : ∀ p, d ≤ p → p < 4 → z (50 + p) = nI 0) (hB : lbHyp z n d b size wt U S H) (hp : ∀ c, c < b ^ d → upR (hnR z d c b size d) n = -1 → hpos n wt U (H c)) (h : rnP d b size (hsS z n d b size wt U S H (b ^ d)) M M2) (hm : mfR z n = -1) : rnA z n d b size wt U S H M M2 := by
  have e : lbF z n d b size wt U S H = lbS z n d b size wt U S H (b ^ d) := if_pos hm
  unfold rnA; rw [e]
  obtain ⟨k1, k2⟩ := hs_lb hB hp (Nat.le_refl (b ^ d))
  have hbs : ∀ t p, p < 4 → bsE d b size t p = bsD z d b size t p := fun t p hp => by
    unfold bsE bsD; split
    · rfl
    · exact tr_hn hz0 hp
  rcases Nat.eq_zero_or_pos (hsS z n d b size wt U S H (b ^ d)).2 with ht | ht
  · rw [k1 ht]
    have h2 := h.2.1.1 ht
    refine ⟨h.1, fun q => absurd q (Nat.lt_irrefl 0), fun _ => ⟨h2.1, h2.2.1, h2.2.2.1⟩, fun p hp => ?_⟩
    rw [h.2.2 p hp, ht, hbs 0 p hp]
  · obtain ⟨e2, e3⟩ := k2 ht
    rw [e2] at e3 ⊢
    have h2 := h.2.1.2 ht
    exact ⟨h.1, fun _ => ⟨h2.1, h2.2.1, h2.2.2.1⟩, fun q => absurd e3 q, fun p hp => by rw [h.2.2 p hp]; exact hbs _ p hp⟩
theorem an_z {z : Nat → Int32} {n d b size : Nat} {wt U : Nat → Nat} {S : Nat → Nat → Nat} {H : Nat → Nat} {M M2 : Mm} (h : rnA z n d b size wt U S H M M2) {w : Nat} (hw : w ≤ 1 ∨ (10 ≤ w ∧ w ≤ 13)) : (if w = 0 then M2.2 132 1 else if w = 1 then M2.2 132 2 else (M2.1 131 (w - 10)).toInt64) = bhz z n d b size wt U S H w := by
  unfold bhz
  by_cases w0 : w = 0
  · subst w0
    rw [if_pos rfl, if_pos (show (0 : Nat) < 2 by decide)]
    by_cases q : 0 < (lbF z n d b size wt U S H).2.1
    · rw [if_pos q, if_pos rfl, (h.2.1 q).2.1]
    · rw [if_neg q, (h.2.2.1 q).2.1]
  · by_cases w1 : w = 1
    · subst w1
      rw [if_neg (show ¬ (1 : Nat) = 0 by decide), if_pos rfl, if_pos (show (1 : Nat) < 2 by decide)]
      by_cases q : 0 < (lbF z n d b size wt U S H).2.1
      · rw [if_pos q, if_neg (show ¬ (1 : Nat) = 0 by decide), (h.2.1 q).2.2]
      · rw [if_neg q, (h.2.2.1 q).2.2]
    · rw [if_neg w0, if_neg w1, if_neg (by omega), h.2.2.2 _ (by omega)]
/-- the share doubled k times -/
def dsc (x : UInt64) : Nat → UInt64
  | 0 => x
  | k + 1 => FP.dmul (dsc x k) 4611686018427387904
theorem ex_s (k : Nat) : 1023 - lN k - lN 1 = 1023 - lN (k + 1) := by rw [← lN_add, Int64.sub_sub]
