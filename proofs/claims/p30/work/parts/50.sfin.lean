/-! ===== pure: each call's end; rows for the law's own method (by hand) ===== -/
section SF
variable {M M9 Mu M3 : Mm} {s lt len n d : Nat} {ct : Nat → Nat} {v : Int64}
theorem gv_uw {M1 : Mm} {z : Nat → Int32} {k : Nat} {x : Int32} (h : gv M1 0 (gH 0) z n d) (hn : n ≤ 8) (hk : k < n) : gv (mI M1 (gW 0) k x) 0 (gH 0) (upd z (2 + k) x) n d := by
  obtain ⟨g1, g2, g3, g4, g5, g6⟩ := h
  refine ⟨by rw [mI_ne _ (by decide)]; exact g1, by rw [mI_ne _ (by decide)]; exact g2, fun v hv => by rw [mI_ne _ (by decide), g3 v hv, upd_n _ _ (by omega)], fun v hv => ?_, fun v p hv hp => by rw [mI_ne _ (by simp only [gR, gW]; omega), g5 v p hv hp, upd_n _ _ (by omega)], fun p hp => by rw [mI_ne _ (by decide), g6 p hp, upd_n _ _ (by omega)]⟩
  rw [mI_eq]
  by_cases q : v = k
  · subst q; rw [upd_e, upd_e]
  · rw [upd_n _ _ q, upd_n _ _ (by omega)]; exact g4 v hv
theorem gv_ul {M1 : Mm} {z : Nat → Int32} {v9 p9 : Nat} {x : Int32} (h : gv M1 0 (gH 0) z n d) (hn : n ≤ 8) (hk : v9 < n) (hp9 : p9 < 4) : gv (mI M1 (gR 0 v9) p9 x) 0 (gH 0) (upd z (18 + 4 * v9 + p9) x) n d := by
  obtain ⟨g1, g2, g3, g4, g5, g6⟩ := h
  refine ⟨by rw [mI_ne _ (by simp only [gR, gO]; omega)]; exact g1, by rw [mI_ne _ (by simp only [gR, gO]; omega)]; exact g2, fun v hv => by rw [mI_ne _ (by simp only [gR, gN]; omega), g3 v hv, upd_n _ _ (by omega)], fun v hv => by rw [mI_ne _ (by simp only [gR, gW]; omega), g4 v hv, upd_n _ _ (by omega)], fun v p hv hp => ?_, fun p hp => by rw [mI_ne _ (by simp only [gR, gH]; omega), g6 p hp, upd_n _ _ (by omega)]⟩
  by_cases q : v = v9
  · subst q
    rw [mI_eq]
    by_cases w : p = p9
    · subst w; rw [upd_e, upd_e]
    · rw [upd_n _ _ w, upd_n _ _ (by omega)]; exact g5 v p hv hp
  · rw [mI_ne _ (by simp only [gR]; omega), g5 v p hv hp, upd_n _ _ (by omega)]
theorem gv_uh {M1 : Mm} {z : Nat → Int32} {p9 : Nat} {x : Int32} (h : gv M1 0 (gH 0) z n d) (hn : n ≤ 8) (hp9 : p9 < 4) : gv (mI M1 (gH 0) p9 x) 0 (gH 0) (upd z (50 + p9) x) n d := by
  obtain ⟨g1, g2, g3, g4, g5, g6⟩ := h
  refine ⟨by rw [mI_ne _ (by decide)]; exact g1, by rw [mI_ne _ (by decide)]; exact g2, fun v hv => by rw [mI_ne _ (by decide), g3 v hv, upd_n _ _ (by omega)], fun v hv => by rw [mI_ne _ (by decide), g4 v hv, upd_n _ _ (by omega)], fun v p hv hp => by rw [mI_ne _ (by simp only [gR, gH]; omega), g5 v p hv hp, upd_n _ _ (by omega)], fun p hp => ?_⟩
  rw [mI_eq]
  by_cases q : p = p9
  · subst q; rw [upd_e, upd_e]
  · rw [upd_n _ _ q, upd_n _ _ (by omega)]; exact g6 p hp
/-- the whole handle changed -/
theorem gv_ua {M1 : Mm} {z g f : Nat → Int32} (h : gv M1 0 (gH 0) z n d) (hn : n ≤ 8) (hf : ∀ p, p < 4 → f p = g p) : gv (mA M1 (gH 0) f) 0 (gH 0) (rsK z g 4) n d := by
  obtain ⟨g1, g2, g3, g4, g5, g6⟩ := h
  have hr : ∀ j, j < 50 → rsK z g 4 j = z j := fun j hj => by unfold rsK; rw [if_neg (by omega)]
  refine ⟨by rw [mA_ne _ (by decide)]; exact g1, by rw [mA_ne _ (by decide)]; exact g2, fun v hv => by rw [mA_ne _ (by decide), g3 v hv, hr _ (by omega)], fun v hv => by rw [mA_ne _ (by decide), g4 v hv, hr _ (by omega)], fun v p hv hp => by rw [mA_ne _ (by simp only [gR, gH]; omega), g5 v p hv hp, hr _ (by omega)], fun p hp => ?_⟩
  rw [mA_eq, hf p hp]; unfold rsK; rw [if_pos (by omega), show 50 + p - 50 = p by omega]
end SF
