/-! ===== the class: a graph made new, copied, a vertex dropped (written by wip/whole/gen/cls3.py) ===== -/
def clI (M M3 : Mm) (a b : Int32) (k : Nat) : Prop := oG 0 M M3 ∧ M3.1 (gO 0) 0 = a ∧ M3.1 (gO 0) 1 = b ∧ (∀ v, v < 8 → M3.1 (gN 0) v = nI 0) ∧ (∀ v, v < 8 → M3.1 (gW 0) v = nI 1) ∧ ∀ v p, v < k → p < 4 → M3.1 (gR 0 v) p = nI 0
theorem cl_0 {M M1 M2 : Mm} {a b : Int32} (h1 : fiP (gN 0) 8 (nI 0) (mI (mI M (gO 0) 0 a) (gO 0) 1 b) M1) (h2 : fiP (gW 0) 8 (nI 1) M1 M2) : clI M M2 a b 0 := by
  refine ⟨(((((oG.rf 0 M).I (by decide)).I (by decide)).F (by decide) h1.1.1 h1.1.2).F (by decide) h2.1.1 h2.1.2), ?_, ?_, fun v hv => ?_, fun v hv => ?_, fun v p hv => absurd hv (Nat.not_lt_zero v)⟩
  · rw [h2.1.1 _ (by decide), h1.1.1 _ (by decide), mI_eq, upd_n _ _ (by decide), mI_eq, upd_e]
  · rw [h2.1.1 _ (by decide), h1.1.1 _ (by decide), mI_eq, upd_e]
  · rw [h2.1.1 _ (by decide)]; exact h1.2 v hv
  · exact h2.2 v hv
theorem cl_s {M M3 M4 : Mm} {a b : Int32} {k : Nat} (h : clI M M3 a b k) (hk : k < 8) (h1 : fiP (gR 0 k) 4 (nI 0) M3 M4) : clI M M4 a b (k + 1) := by
  obtain ⟨g0, g1, g2, g3, g4, g5⟩ := h
  refine ⟨g0.F (by simp only [gR]; omega) h1.1.1 h1.1.2, ?_, ?_, fun v hv => ?_, fun v hv => ?_, fun v p hv hp => ?_⟩
  · rw [h1.1.1 _ (by simp only [gO, gR]; omega)]; exact g1
  · rw [h1.1.1 _ (by simp only [gO, gR]; omega)]; exact g2
  · rw [h1.1.1 _ (by simp only [gN, gR]; omega)]; exact g3 v hv
  · rw [h1.1.1 _ (by simp only [gW, gR]; omega)]; exact g4 v hv
  · by_cases e : v = k
    · rw [e]; exact h1.2 p hp
    · rw [h1.1.1 _ (by simp only [gR]; omega)]; exact g5 v p (by omega) hp
/-- what clear leaves -/
def clP (M M2 : Mm) (a b : Nat) : Prop := oG 0 M M2 ∧ ∀ z0, gv M2 0 (gH 0) (emR z0 a b) a b
theorem cl_e {M M3 M4 : Mm} {a b : Nat} (ha : a ≤ 8) (h : clI M M3 (nI a) (nI b) 8) (h1 : fiP (gH 0) 4 (nI 0) M3 M4) : clP M M4 a b := by
  obtain ⟨g0, g1, g2, g3, g4, g5⟩ := h
  refine ⟨g0.F (by decide) h1.1.1 h1.1.2, fun z0 => ⟨?_, ?_, fun v hv => ?_, fun v hv => ?_, fun v p hv hp => ?_, fun p hp => ?_⟩⟩
  · rw [h1.1.1 _ (by decide)]; exact g1
  · rw [h1.1.1 _ (by decide)]; exact g2
  · rw [h1.1.1 _ (by decide), g3 v (by omega)]; unfold emR; rw [if_neg (by omega), if_neg (by omega), if_neg (by omega), if_pos (by omega)]
  · rw [h1.1.1 _ (by decide), g4 v (by omega)]; unfold emR; rw [if_neg (by omega), if_neg (by omega), if_pos (by omega)]
  · rw [h1.1.1 _ (by simp only [gH, gR]; omega), g5 v p (by omega) hp]; unfold emR; rw [if_neg (by omega), if_neg (by omega), if_neg (by omega), if_pos (by omega)]
  · rw [h1.2 p hp]; unfold emR; rw [if_neg (by omega), if_neg (by omega), if_neg (by omega), if_pos (by omega)]
/-- copyFrom -/
def cpI (g : Nat) (M M3 : Mm) (z : Nat → Int32) (n d k : Nat) : Prop := oG g M M3 ∧ M3.1 (gO g) 0 = nI n ∧ M3.1 (gO g) 1 = nI d ∧ (∀ v, v < n → M3.1 (gN g) v = z (10 + v)) ∧ (∀ v, v < n → M3.1 (gW g) v = z (2 + v)) ∧ ∀ v p, v < k → v < n → p < 4 → M3.1 (gR g v) p = z (18 + 4 * v + p)
theorem cy_at {f g : Nat → Int32} {n j : Nat} (h : j < n) : va_cpy f g 0 0 n j = f j := by
  unfold va_cpy; rw [if_pos (by omega)]; congr 1; omega
theorem cp_a {g h : Nat} {M : Mm} {z : Nat → Int32} {n d : Nat} (hg : gv M h (gH h) z n d) (hn : n ≤ 8) (hne : g ≠ h) {M1 M2 M3 : Mm} {x y : Nat → Int32} (e1 : M1 = mI (mI M (gO g) 0 (nI n)) (gO g) 1 (nI d)) (hx : ∀ v, v < 8 → x v = M.1 (gN h) v) (hy : ∀ v, v < 8 → y v = M.1 (gW h) v) (e2 : M2 = mA M1 (gN g) x) (e3 : M3 = mA M2 (gW g) y) : cpI g M M3 z n d 0 := by
  subst e3; subst e2; subst e1
  obtain ⟨g1, g2, g3, g4, g5, g6⟩ := hg
  refine ⟨((((oG.rf g M).I (by simp only [gO]; omega)).I (by simp only [gO]; omega)).A (by simp only [gN]; omega)).A (by simp only [gW]; omega), ?_, ?_, fun v hv => ?_, fun v hv => ?_, fun v p hv => absurd hv (Nat.not_lt_zero v)⟩
  · rw [mA_ne _ (by simp only [gO, gW]; omega), mA_ne _ (by simp only [gO, gN]; omega), mI_eq, upd_n _ _ (by decide), mI_eq, upd_e]
  · rw [mA_ne _ (by simp only [gO, gW]; omega), mA_ne _ (by simp only [gO, gN]; omega), mI_eq, upd_e]
  · rw [mA_ne _ (by simp only [gN, gW]; omega), mA_eq, hx v (by omega)]; exact g3 v hv
  · rw [mA_eq, hy v (by omega)]; exact g4 v hv
theorem cp_s {g h : Nat} {M M3 : Mm} {z : Nat → Int32} {n d k : Nat} (hg : gv M h (gH h) z n d) (hne : g ≠ h) (hk : k < 8) (hI : cpI g M M3 z n d k) : cpI g M (mA M3 (gR g k) (va_cpy (M3.1 (gR h k)) (M3.1 (gR g k)) 0 0 4)) z n d (k + 1) := by
  obtain ⟨g0, g1, g2, g3, g4, g5⟩ := hI
  refine ⟨g0.A (by simp only [gR]; omega), ?_, ?_, fun v hv => ?_, fun v hv => ?_, fun v p hv hn hp => ?_⟩
  · rw [mA_ne _ (by simp only [gO, gR]; omega)]; exact g1
  · rw [mA_ne _ (by simp only [gO, gR]; omega)]; exact g2
  · rw [mA_ne _ (by simp only [gN, gR]; omega)]; exact g3 v hv
  · rw [mA_ne _ (by simp only [gW, gR]; omega)]; exact g4 v hv
  · by_cases e : v = k
    · subst e
      rw [mA_eq, cy_at hp, g0.1 _ (by simp only [gR]; omega)]; exact hg.2.2.2.2.1 v p hn hp
    · rw [mA_ne _ (by simp only [gR]; omega)]; exact g5 v p (by omega) hn hp
theorem cp_e {g h : Nat} {M M3 : Mm} {z : Nat → Int32} {n d : Nat} (hg : gv M h (gH h) z n d) (hn : n ≤ 8) (hne : g ≠ h) (hI : cpI g M M3 z n d 8) : oG g M (mA M3 (gH g) (va_cpy (M3.1 (gH h)) (M3.1 (gH g)) 0 0 4)) ∧ gv (mA M3 (gH g) (va_cpy (M3.1 (gH h)) (M3.1 (gH g)) 0 0 4)) g (gH g) z n d := by
  obtain ⟨g0, g1, g2, g3, g4, g5⟩ := hI
  refine ⟨g0.A (by simp only [gH]; omega), ?_, ?_, fun v hv => ?_, fun v hv => ?_, fun v p hv hp => ?_, fun p hp => ?_⟩
  · rw [mA_ne _ (by simp only [gO, gH]; omega)]; exact g1
  · rw [mA_ne _ (by simp only [gO, gH]; omega)]; exact g2
  · rw [mA_ne _ (by simp only [gN, gH]; omega)]; exact g3 v hv
  · rw [mA_ne _ (by simp only [gW, gH]; omega)]; exact g4 v hv
  · rw [mA_ne _ (by simp only [gR, gH]; omega)]; exact g5 v p (by omega) hv hp
  · rw [mA_eq, cy_at hp, g0.1 _ (by simp only [gH]; omega)]; exact hg.2.2.2.2.2 p hp
/-- drop -/
theorem dr_wo {z : Nat → Int32} {n k v : Nat} (hm : gm z n) (hk : k < n) (hv : v < 8) : (z (10 + k) &&& (s1 v - nI 1)) ||| ((z (10 + k) >>> (nI 1 &&& 31)) &&& ntI (s1 v - nI 1)) = wo (z (10 + k)) v := by
  obtain ⟨m, hm1, e⟩ := hm k hk
  rw [e]
  have h : ∀ m : Fin 256, ∀ v : Fin 8, (nI m.val &&& (s1 v.val - nI 1)) ||| ((nI m.val >>> (nI 1 &&& 31)) &&& ntI (s1 v.val - nI 1)) = wo (nI m.val) v.val := by decide +kernel
  exact h ⟨m, hm1⟩ ⟨v, hv⟩
def drA (M M3 : Mm) (z : Nat → Int32) (n v k : Nat) : Prop := o1 (gN 0) M M3 ∧ ∀ w, w < n → M3.1 (gN 0) w = if w < k then wo (z (10 + w)) v else z (10 + w)
theorem dr_s {M M3 : Mm} {z : Nat → Int32} {n v k : Nat} {x : Int32} (h : drA M M3 z n v k) (hx : x = wo (z (10 + k)) v) : drA M (mI M3 (gN 0) k x) z n v (k + 1) := by
  subst hx
  refine ⟨h.1.I, fun w hw => ?_⟩
  rw [mI_eq]; unfold upd
  by_cases e : w = k
  · subst e; rw [if_pos rfl, if_pos (by omega)]
  · rw [if_neg e, h.2 w hw]
    by_cases q : w < k
    · rw [if_pos q, if_pos (by omega)]
    · rw [if_neg q, if_neg (by omega)]
def sh9 (v k w : Nat) : Nat := if v ≤ w ∧ w < k then w + 1 else w
def drB (M M3 : Mm) (z : Nat → Int32) (n d v k : Nat) : Prop := oG 0 M M3 ∧ M3.1 (gO 0) 0 = nI n ∧ M3.1 (gO 0) 1 = nI d ∧ (∀ w, w < n → M3.1 (gN 0) w = wo (z (10 + sh9 v k w)) v) ∧ (∀ w, w < n → M3.1 (gW 0) w = z (2 + sh9 v k w)) ∧ (∀ w p, w < n → p < 4 → M3.1 (gR 0 w) p = z (18 + 4 * sh9 v k w + p)) ∧ ∀ p, p < 4 → M3.1 (gH 0) p = z (50 + p)
theorem dr_b0 {M M3 : Mm} {z : Nat → Int32} {n d v : Nat} (hg : gv M 0 (gH 0) z n d) (h : drA M M3 z n v n) (hn : n ≤ 8) : drB M M3 z n d v v := by
  obtain ⟨g1, g2, g3, g4, g5, g6⟩ := hg
  have hs : ∀ w, sh9 v v w = w := fun w => by unfold sh9; rw [if_neg (by omega)]
  refine ⟨h.1.G (by decide), by rw [h.1.1 _ (by decide)]; exact g1, by rw [h.1.1 _ (by decide)]; exact g2, fun w hw => by rw [h.2 w hw, if_pos hw, hs], fun w hw => by rw [h.1.1 _ (by decide), hs]; exact g4 w hw, fun w p hw hp => by rw [h.1.1 _ (by simp only [gR, gN]; omega), hs]; exact g5 w p hw hp, fun p hp => by rw [h.1.1 _ (by decide)]; exact g6 p hp⟩
theorem dr_bs {M M3 : Mm} {z : Nat → Int32} {n d v k : Nat} (h : drB M M3 z n d v k) (hv : v ≤ k) (hk : k + 1 < n) (hn : n ≤ 8) {M4 : Mm} {x y : Int32} (hx : x = wo (z (10 + (k + 1))) v) (hy : y = z (2 + (k + 1))) (e : M4 = mI (mI M3 (gN 0) k x) (gW 0) k y) : drB M (mA M4 (gR 0 k) (va_cpy (M4.1 (gR 0 (k + 1))) (M4.1 (gR 0 k)) 0 0 4)) z n d v (k + 1) := by
  subst hx; subst hy; subst e
  obtain ⟨g0, g1, g2, g3, g4, g5, g6⟩ := h
  have hs : ∀ w, w ≠ k → sh9 v (k + 1) w = sh9 v k w := fun w hw => by unfold sh9; by_cases q : v ≤ w ∧ w < k; rw [if_pos q, if_pos (by omega)]; rw [if_neg q, if_neg (by omega)]
  have hk1 : sh9 v (k + 1) k = k + 1 := by unfold sh9; rw [if_pos (by omega)]
  have hk2 : sh9 v k (k + 1) = k + 1 := by unfold sh9; rw [if_neg (by omega)]
  refine ⟨((g0.I (by decide)).I (by decide)).A (by simp only [gR]; omega), ?_, ?_, fun w hw => ?_, fun w hw => ?_, fun w p hw hp => ?_, fun p hp => ?_⟩
  · rw [mA_ne _ (by simp only [gO, gR]; omega), mI_ne _ (by decide), mI_ne _ (by decide)]; exact g1
  · rw [mA_ne _ (by simp only [gO, gR]; omega), mI_ne _ (by decide), mI_ne _ (by decide)]; exact g2
  · rw [mA_ne _ (by simp only [gN, gR]; omega), mI_ne _ (by decide), mI_eq]
    unfold upd
    by_cases q : w = k
    · rw [if_pos q, q, hk1]
    · rw [if_neg q, hs w q]; exact g3 w hw
  · rw [mA_ne _ (by simp only [gW, gR]; omega), mI_eq]
    unfold upd
    by_cases q : w = k
    · rw [if_pos q, q, hk1]
    · rw [if_neg q, hs w q, mI_ne _ (by decide)]; exact g4 w hw
  · by_cases q : w = k
    · subst q
      rw [mA_eq, cy_at hp, mI_ne _ (by simp only [gR, gW]; omega), mI_ne _ (by simp only [gR, gN]; omega), hk1, g5 _ p hk hp, hk2]
    · rw [mA_ne _ (by simp only [gR]; omega), mI_ne _ (by simp only [gR, gW]; omega), mI_ne _ (by simp only [gR, gN]; omega), hs w q]; exact g5 w p hw hp
  · rw [mA_ne _ (by simp only [gH, gR]; omega), mI_ne _ (by decide), mI_ne _ (by decide)]; exact g6 p hp
theorem dr_e {M M3 : Mm} {z : Nat → Int32} {n d v : Nat} (h : drB M M3 z n d v (n - 1)) (hn1 : 1 ≤ n) (hn : n ≤ 8) : oG 0 M (mI M3 (gO 0) 0 (nI (n - 1))) ∧ gv (mI M3 (gO 0) 0 (nI (n - 1))) 0 (gH 0) (rmR z n v) (n - 1) d := by
  obtain ⟨g0, g1, g2, g3, g4, g5, g6⟩ := h
  refine ⟨g0.I (by decide), ?_, ?_, fun w hw => ?_, fun w hw => ?_, fun w p hw hp => ?_, fun p hp => ?_⟩
  · rw [mI_eq, upd_e]
  · rw [mI_eq, upd_n _ _ (by decide)]; exact g2
  · rw [mI_ne _ (by decide), g3 w (by omega)]
    simp only [rmR, cbA, rmC, rmA, sh9]
    repeat' split
    all_goals first | rfl | (exfalso; omega) | (congr 1; omega)
  · rw [mI_ne _ (by decide), g4 w (by omega)]
    simp only [rmR, cbA, rmC, rmA, sh9]
    repeat' split
    all_goals first | rfl | (exfalso; omega) | (congr 1; omega)
  · rw [mI_ne _ (by simp only [gR, gO]; omega), g5 w p (by omega) hp]
    simp only [rmR, cbA, rmC, rmA, sh9]
    repeat' split
    all_goals first | rfl | (exfalso; omega) | (congr 1; omega)
  · rw [mI_ne _ (by decide), g6 p hp]
    simp only [rmR, cbA, rmC, rmA, sh9]
    repeat' split
    all_goals first | rfl | (exfalso; omega) | (congr 1; omega)
set_option maxRecDepth 100000 in
set_option maxHeartbeats 4000000 in
theorem c_X4_clear (l : Launch) (D : va_G) (cs : Nat → ClassId) (ad : Nat → Nat) (M : Mm) (a b : Nat) (ha : a ≤ 8) : ∀ sz : Nat, Met l yX4_clear (.code yX4_clear cX4_clear 4 none :: TT) { frames := 1, cells := 0, slots := 0, locals := 23 } (va_Pc [.ref (ad (gO 0)), .int (nI a), .int (nI b)] (fun U9 => U9.heap.size = sz ∧ wB D cs ad (fA ad sz) M U9)) (va_Qv (fun M2 => clP M M2 a b) (wB D cs ad (fA ad sz)) (fA ad sz)) 0 0 (fA ad sz) := by
  refine st_V (by decide) (Nat.le_of_ble_eq_true rfl) (fun κ C E => ?_)
  refine r_lv (lv2 := [(0, .ref (ad (gO 0))), (1, .int (nI a)), (2, .int (nI b))]) [0, 1, 2] rfl ?_
  refine r_aload_n C dX4_clear_0 rfl 0 rfl ?_
  refine r_iload_n C dX4_clear_1 rfl 1 rfl ?_
  refine r_put C (M2 := (mI M (gO 0) 0 (nI a))) (Cn := RX4) (T := TX4) (N := 6) (id := (gO 0)) (by simp only [gO, gN, gW, gL, gR, gH] <;> omega) inw_X4 tyX4_ok nmX4 (wF_O cs ad (by decide) _ _) rfl 0 (by decide) rfl fl_X4_9 rfl rfl (rfl) (Nat.le_of_ble_eq_true rfl) (fun j hj => ⟨mI_ne _ hj, rfl⟩) (by rw [mI_eq, mI_2, wF_O cs ad (by decide)]; rfl) dX4_clear_2 ?_
  refine r_aload_n C dX4_clear_5 rfl 0 rfl ?_
  refine r_iload_n C dX4_clear_6 rfl 2 rfl ?_
  refine r_put C (M2 := (mI (mI M (gO 0) 0 (nI a)) (gO 0) 1 (nI b))) (Cn := RX4) (T := TX4) (N := 6) (id := (gO 0)) (by simp only [gO, gN, gW, gL, gR, gH] <;> omega) inw_X4 tyX4_ok nmX4 (wF_O cs ad (by decide) _ _) rfl 1 (by decide) rfl fl_X4_15 rfl rfl (rfl) (Nat.le_of_ble_eq_true rfl) (fun j hj => ⟨mI_ne _ hj, rfl⟩) (by rw [mI_eq, mI_2, wF_O cs ad (by decide)]; rfl) dX4_clear_7 ?_
  refine r_aload_n C dX4_clear_10 rfl 0 rfl ?_
  refine r_get C (Cn := RX4) (T := TX4) (N := 6) (id := (gO 0)) (by simp only [gO, gN, gW, gL, gR, gH] <;> omega) inw_X4 (wF_O cs ad (by decide) _ _) rfl 2 (by decide) rfl fl_X4_18 rfl dX4_clear_11 ?_
  refine r_iconst C (nI 0) dX4_clear_14 (by decide) ?_
  refine r_callS2_v (nA := 2) C (Nat.le_of_ble_eq_true rfl) [.ref (ad (gN 0)), .int (nI 0)] (c_fill l D cs ad (mI (mI M (gO 0) 0 (nI a)) (gO 0) 1 (nI b))  (gN 0) 8 (by simp only [gO, gN, gW, gL, gR, gH] <;> omega) (fun _ _ => (wF_N cs ad (by decide) _ _)) (by decide) (nI 0)) (tt_S2 ml_X4_33 st_J7_fill_53178 in_J7 co_J7_fill_53178) ⟨rfl, rfl⟩ ⟨by decide, by decide, by decide⟩ ⟨Nat.le_of_ble_eq_true rfl, Nat.le_of_ble_eq_true rfl⟩ rfl rfl (Nat.le_of_ble_eq_true rfl) dX4_clear_15 (fun Mu1 qu1 => ?_)
  refine r_aload_n C dX4_clear_18 rfl 0 rfl ?_
  refine r_get C (Cn := RX4) (T := TX4) (N := 6) (id := (gO 0)) (by simp only [gO, gN, gW, gL, gR, gH] <;> omega) inw_X4 (wF_O cs ad (by decide) _ _) rfl 3 (by decide) rfl fl_X4_22 rfl dX4_clear_19 ?_
  refine r_iconst C (nI 1) dX4_clear_22 (by decide) ?_
  refine r_callS2_v (nA := 2) C (Nat.le_of_ble_eq_true rfl) [.ref (ad (gW 0)), .int (nI 1)] (c_fill l D cs ad Mu1  (gW 0) 8 (by simp only [gO, gN, gW, gL, gR, gH] <;> omega) (fun _ _ => (wF_W cs ad (by decide) _ _)) (by decide) (nI 1)) (tt_S2 ml_X4_33 st_J7_fill_53178 in_J7 co_J7_fill_53178) ⟨rfl, rfl⟩ ⟨by decide, by decide, by decide⟩ ⟨Nat.le_of_ble_eq_true rfl, Nat.le_of_ble_eq_true rfl⟩ rfl rfl (Nat.le_of_ble_eq_true rfl) dX4_clear_23 (fun Mu2 qu2 => ?_)
  refine r_iconst C (nI 0) dX4_clear_26 (by decide) ?_
  refine r_istore_n C [(3, .int (nI 0)), (0, .ref (ad (gO 0))), (1, .int (nI a)), (2, .int (nI b))] dX4_clear_27 rfl (by decide) rfl ?_
  have Lp : ∀ (f k : Nat) (M3 : Mm), 8 + 1 ≤ k + f → k ≤ 8 → clI M M3 (nI a) (nI b) k → VV l D cs ad 4 κ 0 M3 28 [(3, .int (nI k)), (0, .ref (ad (gO 0))), (1, .int (nI a)), (2, .int (nI b))] [] := by
    intro f
    induction f with
    | zero => intro k M3 hk1 hk2 hI; exact absurd hk1 (by omega)
    | succ f ih =>
      intro k M3 hk1 hk2 hI
      refine r_iload_n C dX4_clear_28 rfl 0 rfl ?_
      refine r_bipush C (nI 8) dX4_clear_29 (by decide) ?_
      refine r_icmpN_ge C 50 dX4_clear_31 (by decide) (by omega) (by omega) (fun h31 => ?_) (fun h31 => ?_)
      ·
        have hk9 : 8 = k := by omega
        subst hk9
        refine r_aload_n C dX4_clear_50 rfl 1 rfl ?_
        refine r_get C (Cn := RX4) (T := TX4) (N := 6) (id := (gO 0)) (by simp only [gO, gN, gW, gL, gR, gH] <;> omega) inw_X4 (wF_O cs ad (by decide) _ _) rfl 5 (by decide) rfl fl_X4_30 rfl dX4_clear_51 ?_
        refine r_iconst C (nI 0) dX4_clear_54 (by decide) ?_
        refine r_callS2_v (nA := 2) C (Nat.le_of_ble_eq_true rfl) [.ref (ad (gH 0)), .int (nI 0)] (c_fill l D cs ad M3  (gH 0) 4 (by simp only [gO, gN, gW, gL, gR, gH] <;> omega) (fun _ _ => (wF_H cs ad (by decide) _ _)) (by decide) (nI 0)) (tt_S2 ml_X4_33 st_J7_fill_53178 in_J7 co_J7_fill_53178) ⟨rfl, rfl⟩ ⟨by decide, by decide, by decide⟩ ⟨Nat.le_of_ble_eq_true rfl, Nat.le_of_ble_eq_true rfl⟩ rfl rfl (Nat.le_of_ble_eq_true rfl) dX4_clear_55 (fun Mu3 qu3 => ?_)
        exact E 0 _ _ _ (Nat.le_of_ble_eq_true rfl) dX4_clear_58 (cl_e ha hI qu3)
      ·
        refine r_aload_n C dX4_clear_34 rfl 1 rfl ?_
        refine r_get C (Cn := RX4) (T := TX4) (N := 6) (id := (gO 0)) (by simp only [gO, gN, gW, gL, gR, gH] <;> omega) inw_X4 (wF_O cs ad (by decide) _ _) rfl 4 (by decide) rfl fl_X4_27 rfl dX4_clear_35 ?_
        refine r_iload_n C dX4_clear_38 rfl 0 rfl ?_
        refine r_aald C (id := (gL 0)) (n := 8) (a := k) (id2 := (gR 0 k)) (t0 := 4) (by simp only [gO, gN, gW, gL, gR, gH] <;> omega) (wF_L cs ad (by decide) _ _) rfl rfl (by omega) (by decide) (if_pos (by omega)) dX4_clear_39 ?_
        refine r_iconst C (nI 0) dX4_clear_40 (by decide) ?_
        refine r_callS2_v (nA := 2) C (Nat.le_of_ble_eq_true rfl) [.ref (ad (gR 0 k)), .int (nI 0)] (c_fill l D cs ad M3  (gR 0 k) 4 (by simp only [gO, gN, gW, gL, gR, gH] <;> omega) (fun _ _ => (wF_R cs ad (by decide) (by omega) _ _)) (by decide) (nI 0)) (tt_S2 ml_X4_33 st_J7_fill_53178 in_J7 co_J7_fill_53178) ⟨rfl, rfl⟩ ⟨by decide, by decide, by decide⟩ ⟨Nat.le_of_ble_eq_true rfl, Nat.le_of_ble_eq_true rfl⟩ rfl rfl (Nat.le_of_ble_eq_true rfl) dX4_clear_41 (fun Mu4 qu4 => ?_)
        refine r_iinc C (nI (k + 1)) [(3, .int (nI (k + 1))), (0, .ref (ad (gO 0))), (1, .int (nI a)), (2, .int (nI b))] dX4_clear_44 (j := 0) rfl (inc_n k 1) (by decide) rfl ?_
        refine r_goto C 28 dX4_clear_47 (by decide) ?_
        refine r_lv (lv2 := [(3, .int (nI (k + 1))), (0, .ref (ad (gO 0))), (1, .int (nI a)), (2, .int (nI b))]) [0, 1, 2, 3] rfl ?_
        exact ih (k + 1) _ (by omega) (by omega) (cl_s hI (by omega) qu4)
  refine r_lv (lv2 := [(3, .int (nI 0)), (0, .ref (ad (gO 0))), (1, .int (nI a)), (2, .int (nI b))]) [0, 1, 2, 3] rfl ?_
  exact Lp (8 + 1) 0 _ (by omega) (by omega) (cl_0 qu1 qu2)
set_option maxRecDepth 100000 in
set_option maxHeartbeats 4000000 in
theorem c_X4_copyFrom (l : Launch) (D : va_G) (cs : Nat → ClassId) (ad : Nat → Nat) (M : Mm) (g h : Nat) (hg9 : g < 9) (hh9 : h < 9) (hne : g ≠ h) (z : Nat → Int32) (n d : Nat) (hg : gv M h (gH h) z n d) (hn8 : n ≤ 8) : ∀ sz : Nat, Met l yX4_copyFrom (.code yX4_copyFrom cX4_copyFrom 3 none :: TT) { frames := 1, cells := 0, slots := 0, locals := 60 } (va_Pc [.ref (ad (gO g)), .ref (ad (gO h))] (fun U9 => U9.heap.size = sz ∧ wB D cs ad (fA ad sz) M U9)) (va_Qv (fun M2 => oG g M M2 ∧ gv M2 g (gH g) z n d) (wB D cs ad (fA ad sz)) (fA ad sz)) 0 0 (fA ad sz) := by
  refine st_V (by decide) (Nat.le_of_ble_eq_true rfl) (fun κ C E => ?_)
  refine r_lv (lv2 := [(0, .ref (ad (gO g))), (1, .ref (ad (gO h)))]) [0, 1] rfl ?_
  refine r_aload_n C dX4_copyFrom_0 rfl 0 rfl ?_
  refine r_aload_n C dX4_copyFrom_1 rfl 1 rfl ?_
  refine r_get C (Cn := RX4) (T := TX4) (N := 6) (id := (gO h)) (by simp only [gO, gN, gW, gL, gR, gH] <;> omega) inw_X4 (wF_O cs ad (by omega) _ _) rfl 0 (by decide) rfl fl_X4_9 rfl dX4_copyFrom_2 ?_
  refine r_topi (w := nI n) hg.1 ?_
  refine r_put C (M2 := (mI M (gO g) 0 (nI n))) (Cn := RX4) (T := TX4) (N := 6) (id := (gO g)) (by simp only [gO, gN, gW, gL, gR, gH] <;> omega) inw_X4 tyX4_ok nmX4 (wF_O cs ad (by omega) _ _) rfl 0 (by decide) rfl fl_X4_9 rfl rfl (rfl) (Nat.le_of_ble_eq_true rfl) (fun j hj => ⟨mI_ne _ hj, rfl⟩) (by rw [mI_eq, mI_2, wF_O cs ad (by omega)]; rfl) dX4_copyFrom_5 ?_
  refine r_aload_n C dX4_copyFrom_8 rfl 0 rfl ?_
  refine r_aload_n C dX4_copyFrom_9 rfl 1 rfl ?_
  refine r_get C (Cn := RX4) (T := TX4) (N := 6) (id := (gO h)) (by simp only [gO, gN, gW, gL, gR, gH] <;> omega) inw_X4 (wF_O cs ad (by omega) _ _) rfl 1 (by decide) rfl fl_X4_15 rfl dX4_copyFrom_10 ?_
  refine r_topi (w := nI d) ((congrFun (mI_ne _ (show gO h ≠ gO g by simp only [gO]; omega)) 1).trans hg.2.1) ?_
  refine r_put C (M2 := (mI (mI M (gO g) 0 (nI n)) (gO g) 1 (nI d))) (Cn := RX4) (T := TX4) (N := 6) (id := (gO g)) (by simp only [gO, gN, gW, gL, gR, gH] <;> omega) inw_X4 tyX4_ok nmX4 (wF_O cs ad (by omega) _ _) rfl 1 (by decide) rfl fl_X4_15 rfl rfl (rfl) (Nat.le_of_ble_eq_true rfl) (fun j hj => ⟨mI_ne _ hj, rfl⟩) (by rw [mI_eq, mI_2, wF_O cs ad (by omega)]; rfl) dX4_copyFrom_13 ?_
  refine r_aload_n C dX4_copyFrom_16 rfl 1 rfl ?_
  refine r_get C (Cn := RX4) (T := TX4) (N := 6) (id := (gO h)) (by simp only [gO, gN, gW, gL, gR, gH] <;> omega) inw_X4 (wF_O cs ad (by omega) _ _) rfl 2 (by decide) rfl fl_X4_18 rfl dX4_copyFrom_17 ?_
  refine r_iconst C (nI 0) dX4_copyFrom_20 (by decide) ?_
  refine r_aload_n C dX4_copyFrom_21 rfl 0 rfl ?_
  refine r_get C (Cn := RX4) (T := TX4) (N := 6) (id := (gO g)) (by simp only [gO, gN, gW, gL, gR, gH] <;> omega) inw_X4 (wF_O cs ad (by omega) _ _) rfl 2 (by decide) rfl fl_X4_18 rfl dX4_copyFrom_22 ?_
  refine r_iconst C (nI 0) dX4_copyFrom_25 (by decide) ?_
  refine r_bipush C (nI 8) dX4_copyFrom_26 (by decide) ?_
  refine r_copyi C (id0 := (gN h)) (id1 := (gN g)) (n0 := 8) (n1 := 8) (a := 0) (b := 0) (n := 8) (by simp only [gO, gN, gW, gL, gR, gH] <;> omega) (by simp only [gO, gN, gW, gL, gR, gH] <;> omega) (wF_N cs ad (by omega) _ _) (fun _ => (wF_N cs ad (by omega) _ _)) (by decide) (by decide) (by decide) (by decide) ml_X4_39 na_acopy st_acopy in_J10 (Nat.le_of_ble_eq_true rfl) (Nat.le_of_ble_eq_true rfl) dX4_copyFrom_28 ?_
  refine r_aload_n C dX4_copyFrom_31 rfl 1 rfl ?_
  refine r_get C (Cn := RX4) (T := TX4) (N := 6) (id := (gO h)) (by simp only [gO, gN, gW, gL, gR, gH] <;> omega) inw_X4 (wF_O cs ad (by omega) _ _) rfl 3 (by decide) rfl fl_X4_22 rfl dX4_copyFrom_32 ?_
  refine r_iconst C (nI 0) dX4_copyFrom_35 (by decide) ?_
  refine r_aload_n C dX4_copyFrom_36 rfl 0 rfl ?_
  refine r_get C (Cn := RX4) (T := TX4) (N := 6) (id := (gO g)) (by simp only [gO, gN, gW, gL, gR, gH] <;> omega) inw_X4 (wF_O cs ad (by omega) _ _) rfl 3 (by decide) rfl fl_X4_22 rfl dX4_copyFrom_37 ?_
  refine r_iconst C (nI 0) dX4_copyFrom_40 (by decide) ?_
  refine r_bipush C (nI 8) dX4_copyFrom_41 (by decide) ?_
  refine r_copyi C (id0 := (gW h)) (id1 := (gW g)) (n0 := 8) (n1 := 8) (a := 0) (b := 0) (n := 8) (by simp only [gO, gN, gW, gL, gR, gH] <;> omega) (by simp only [gO, gN, gW, gL, gR, gH] <;> omega) (wF_W cs ad (by omega) _ _) (fun _ => (wF_W cs ad (by omega) _ _)) (by decide) (by decide) (by decide) (by decide) ml_X4_39 na_acopy st_acopy in_J10 (Nat.le_of_ble_eq_true rfl) (Nat.le_of_ble_eq_true rfl) dX4_copyFrom_43 ?_
  refine r_iconst C (nI 0) dX4_copyFrom_46 (by decide) ?_
  refine r_istore_n C [(2, .int (nI 0)), (0, .ref (ad (gO g))), (1, .ref (ad (gO h)))] dX4_copyFrom_47 rfl (by decide) rfl ?_
  have Lp : ∀ (f k : Nat) (M3 : Mm), 8 + 1 ≤ k + f → k ≤ 8 → cpI g M M3 z n d k → VV l D cs ad 3 κ 0 M3 48 [(2, .int (nI k)), (0, .ref (ad (gO g))), (1, .ref (ad (gO h)))] [] := by
    intro f
    induction f with
    | zero => intro k M3 hk1 hk2 hI; exact absurd hk1 (by omega)
    | succ f ih =>
      intro k M3 hk1 hk2 hI
      refine r_iload_n C dX4_copyFrom_48 rfl 0 rfl ?_
      refine r_bipush C (nI 8) dX4_copyFrom_49 (by decide) ?_
      refine r_icmpN_ge C 78 dX4_copyFrom_51 (by decide) (by omega) (by omega) (fun h51 => ?_) (fun h51 => ?_)
      ·
        have hk9 : 8 = k := by omega
        subst hk9
        refine r_aload_n C dX4_copyFrom_78 rfl 2 rfl ?_
        refine r_get C (Cn := RX4) (T := TX4) (N := 6) (id := (gO h)) (by simp only [gO, gN, gW, gL, gR, gH] <;> omega) inw_X4 (wF_O cs ad (by omega) _ _) rfl 5 (by decide) rfl fl_X4_30 rfl dX4_copyFrom_79 ?_
        refine r_iconst C (nI 0) dX4_copyFrom_82 (by decide) ?_
        refine r_aload_n C dX4_copyFrom_83 rfl 1 rfl ?_
        refine r_get C (Cn := RX4) (T := TX4) (N := 6) (id := (gO g)) (by simp only [gO, gN, gW, gL, gR, gH] <;> omega) inw_X4 (wF_O cs ad (by omega) _ _) rfl 5 (by decide) rfl fl_X4_30 rfl dX4_copyFrom_84 ?_
        refine r_iconst C (nI 0) dX4_copyFrom_87 (by decide) ?_
        refine r_iconst C (nI 4) dX4_copyFrom_88 (by decide) ?_
        refine r_copyi C (id0 := (gH h)) (id1 := (gH g)) (n0 := 4) (n1 := 4) (a := 0) (b := 0) (n := 4) (by simp only [gO, gN, gW, gL, gR, gH] <;> omega) (by simp only [gO, gN, gW, gL, gR, gH] <;> omega) (wF_H cs ad (by omega) _ _) (fun _ => (wF_H cs ad (by omega) _ _)) (by decide) (by decide) (by decide) (by decide) ml_X4_39 na_acopy st_acopy in_J10 (Nat.le_of_ble_eq_true rfl) (Nat.le_of_ble_eq_true rfl) dX4_copyFrom_89 ?_
        exact E 0 _ _ _ (Nat.le_of_ble_eq_true rfl) dX4_copyFrom_92 (cp_e hg hn8 hne hI)
      ·
        refine r_aload_n C dX4_copyFrom_54 rfl 2 rfl ?_
        refine r_get C (Cn := RX4) (T := TX4) (N := 6) (id := (gO h)) (by simp only [gO, gN, gW, gL, gR, gH] <;> omega) inw_X4 (wF_O cs ad (by omega) _ _) rfl 4 (by decide) rfl fl_X4_27 rfl dX4_copyFrom_55 ?_
        refine r_iload_n C dX4_copyFrom_58 rfl 0 rfl ?_
        refine r_aald C (id := (gL h)) (n := 8) (a := k) (id2 := (gR h k)) (t0 := 4) (by simp only [gO, gN, gW, gL, gR, gH] <;> omega) (wF_L cs ad (by omega) _ _) rfl rfl (by omega) (by decide) (if_pos (by omega)) dX4_copyFrom_59 ?_
        refine r_iconst C (nI 0) dX4_copyFrom_60 (by decide) ?_
        refine r_aload_n C dX4_copyFrom_61 rfl 1 rfl ?_
        refine r_get C (Cn := RX4) (T := TX4) (N := 6) (id := (gO g)) (by simp only [gO, gN, gW, gL, gR, gH] <;> omega) inw_X4 (wF_O cs ad (by omega) _ _) rfl 4 (by decide) rfl fl_X4_27 rfl dX4_copyFrom_62 ?_
        refine r_iload_n C dX4_copyFrom_65 rfl 0 rfl ?_
        refine r_aald C (id := (gL g)) (n := 8) (a := k) (id2 := (gR g k)) (t0 := 4) (by simp only [gO, gN, gW, gL, gR, gH] <;> omega) (wF_L cs ad (by omega) _ _) rfl rfl (by omega) (by decide) (if_pos (by omega)) dX4_copyFrom_66 ?_
        refine r_iconst C (nI 0) dX4_copyFrom_67 (by decide) ?_
        refine r_iconst C (nI 4) dX4_copyFrom_68 (by decide) ?_
        refine r_copyi C (id0 := (gR h k)) (id1 := (gR g k)) (n0 := 4) (n1 := 4) (a := 0) (b := 0) (n := 4) (by simp only [gO, gN, gW, gL, gR, gH] <;> omega) (by simp only [gO, gN, gW, gL, gR, gH] <;> omega) (wF_R cs ad (by omega) (by omega) _ _) (fun _ => (wF_R cs ad (by omega) (by omega) _ _)) (by decide) (by decide) (by decide) (by decide) ml_X4_39 na_acopy st_acopy in_J10 (Nat.le_of_ble_eq_true rfl) (Nat.le_of_ble_eq_true rfl) dX4_copyFrom_69 ?_
        refine r_iinc C (nI (k + 1)) [(2, .int (nI (k + 1))), (0, .ref (ad (gO g))), (1, .ref (ad (gO h)))] dX4_copyFrom_72 (j := 0) rfl (inc_n k 1) (by decide) rfl ?_
        refine r_goto C 48 dX4_copyFrom_75 (by decide) ?_
        refine r_lv (lv2 := [(2, .int (nI (k + 1))), (0, .ref (ad (gO g))), (1, .ref (ad (gO h)))]) [0, 1, 2] rfl ?_
        exact ih (k + 1) _ (by omega) (by omega) (cp_s hg hne (by omega) hI)
  refine r_lv (lv2 := [(2, .int (nI 0)), (0, .ref (ad (gO g))), (1, .ref (ad (gO h)))]) [0, 1, 2] rfl ?_
  exact Lp (8 + 1) 0 _ (by omega) (by omega) (cp_a hg hn8 hne (M1 := mI (mI M (gO g) 0 (nI n)) (gO g) 1 (nI d)) rfl (fun v hv => by rw [cy_at hv, mI_ne _ (by simp only [gN, gO]; omega), mI_ne _ (by simp only [gN, gO]; omega)]) (fun v hv => by rw [cy_at hv, mA_ne _ (by simp only [gN, gW]; omega), mI_ne _ (by simp only [gW, gO]; omega), mI_ne _ (by simp only [gW, gO]; omega)]) rfl rfl)
set_option maxRecDepth 100000 in
set_option maxHeartbeats 4000000 in
theorem c_X4_drop (l : Launch) (D : va_G) (cs : Nat → ClassId) (ad : Nat → Nat) (M : Mm) (z : Nat → Int32) (n d : Nat) (hg : gv M 0 (gH 0) z n d) (hn8 : n ≤ 8) (hm : gm z n) (v : Nat) (hv : v < n) (hn2 : 2 ≤ n) : ∀ sz : Nat, Met l yX4_drop (.code yX4_drop cX4_drop 5 none :: TT) { frames := 1, cells := 0, slots := 0, locals := 60 } (va_Pc [.ref (ad (gO 0)), .int (nI v)] (fun U9 => U9.heap.size = sz ∧ wB D cs ad (fA ad sz) M U9)) (va_Qv (fun M2 => oG 0 M M2 ∧ gv M2 0 (gH 0) (rmR z n v) (n - 1) d) (wB D cs ad (fA ad sz)) (fA ad sz)) 0 0 (fA ad sz) := by
  refine st_V (by decide) (Nat.le_of_ble_eq_true rfl) (fun κ C E => ?_)
  refine r_lv (lv2 := [(0, .ref (ad (gO 0))), (1, .int (nI v))]) [0, 1] rfl ?_
  refine r_iconst C (nI 1) dX4_drop_0 (by decide) ?_
  refine r_iload_n C dX4_drop_1 rfl 1 rfl ?_
  refine r_ishl C dX4_drop_2 ?_
  refine r_topi (w := s1 v) rfl ?_
  refine r_iconst C (nI 1) dX4_drop_3 (by decide) ?_
  refine r_isub C dX4_drop_4 ?_
  refine r_istore_n C [(2, .int ((s1 v) - (nI 1))), (0, .ref (ad (gO 0))), (1, .int (nI v))] dX4_drop_5 rfl (by decide) rfl ?_
  refine r_iconst C (nI 0) dX4_drop_6 (by decide) ?_
  refine r_istore_n C [(3, .int (nI 0)), (2, .int ((s1 v) - (nI 1))), (0, .ref (ad (gO 0))), (1, .int (nI v))] dX4_drop_7 rfl (by decide) rfl ?_
  have Lp : ∀ (f k : Nat) (M3 : Mm), n + 1 ≤ k + f → k ≤ n → drA M M3 z n v k → VV l D cs ad 5 κ 0 M3 8 [(3, .int (nI k)), (0, .ref (ad (gO 0))), (1, .int (nI v)), (2, .int ((s1 v) - (nI 1)))] [] := by
    intro f
    induction f with
    | zero => intro k M3 hk1 hk2 hI; exact absurd hk1 (by omega)
    | succ f ih =>
      intro k M3 hk1 hk2 hI
      refine r_iload_n C dX4_drop_8 rfl 0 rfl ?_
      refine r_aload_n C dX4_drop_9 rfl 1 rfl ?_
      refine r_get C (Cn := RX4) (T := TX4) (N := 6) (id := (gO 0)) (by simp only [gO, gN, gW, gL, gR, gH] <;> omega) inw_X4 (wF_O cs ad (by decide) _ _) rfl 0 (by decide) rfl fl_X4_9 rfl dX4_drop_10 ?_
      refine r_topi (w := nI n) ((congrFun (hI.1.1 _ (by decide)) 0).trans hg.1) ?_
      refine r_icmpN_ge C 49 dX4_drop_13 (by decide) (by omega) (by omega) (fun h13 => ?_) (fun h13 => ?_)
      ·
        have hk9 : n = k := by omega
        subst hk9
        refine r_iload_n C dX4_drop_49 rfl 2 rfl ?_
        refine r_istore_n C [(3, .int (nI v)), (0, .ref (ad (gO 0))), (1, .int (nI v)), (2, .int ((s1 v) - (nI 1)))] dX4_drop_50 rfl (by decide) rfl ?_
        have Lq : ∀ (f_j j : Nat) (M4 : Mm), n + 1 ≤ j + f_j → j ≤ n → j ≤ n - 1 ∧ v ≤ j ∧ drB M M4 z n d v j → VV l D cs ad 5 κ 0 M4 51 [(3, .int (nI j)), (0, .ref (ad (gO 0))), (1, .int (nI v))] [] := by
          intro f_j
          induction f_j with
          | zero => intro j M4 hk1_j hk2_j hI_j; exact absurd hk1_j (by omega)
          | succ f_j ih_j =>
            intro j M4 hk1_j hk2_j hI_j
            refine r_iload_n C dX4_drop_51 rfl 0 rfl ?_
            refine r_iconst C (nI 1) dX4_drop_52 (by decide) ?_
            refine r_iadd C dX4_drop_53 ?_
            refine r_topi (nI_add j 1) ?_
            refine r_aload_n C dX4_drop_54 rfl 1 rfl ?_
            refine r_get C (Cn := RX4) (T := TX4) (N := 6) (id := (gO 0)) (by simp only [gO, gN, gW, gL, gR, gH] <;> omega) inw_X4 (wF_O cs ad (by decide) _ _) rfl 0 (by decide) rfl fl_X4_9 rfl dX4_drop_55 ?_
            refine r_topi (w := nI n) hI_j.2.2.2.1 ?_
            refine r_icmpN_ge C 115 dX4_drop_58 (by decide) (by omega) (by omega) (fun h58 => ?_) (fun h58 => ?_)
            ·
              have hk9 : j = n - 1 := by omega
              rw [hk9] at hI_j
              refine r_aload_n C dX4_drop_115 rfl 1 rfl ?_
              refine r_dup C dX4_drop_116 rfl ?_
              refine r_get C (Cn := RX4) (T := TX4) (N := 6) (id := (gO 0)) (by simp only [gO, gN, gW, gL, gR, gH] <;> omega) inw_X4 (wF_O cs ad (by decide) _ _) rfl 0 (by decide) rfl fl_X4_9 rfl dX4_drop_117 ?_
              refine r_topi (w := nI n) hI_j.2.2.2.1 ?_
              refine r_iconst C (nI 1) dX4_drop_120 (by decide) ?_
              refine r_isub C dX4_drop_121 ?_
              refine r_topi (pk_sub (a := n) (b := 1) (by omega)) ?_
              refine r_put C (M2 := (mI M4 (gO 0) 0 (nI (n - 1)))) (Cn := RX4) (T := TX4) (N := 6) (id := (gO 0)) (by simp only [gO, gN, gW, gL, gR, gH] <;> omega) inw_X4 tyX4_ok nmX4 (wF_O cs ad (by decide) _ _) rfl 0 (by decide) rfl fl_X4_9 rfl rfl (rfl) (Nat.le_of_ble_eq_true rfl) (fun j hj => ⟨mI_ne _ hj, rfl⟩) (by rw [mI_eq, mI_2, wF_O cs ad (by decide)]; rfl) dX4_drop_122 ?_
              exact E 0 _ _ _ (Nat.le_of_ble_eq_true rfl) dX4_drop_125 (dr_e hI_j.2.2 (by omega) hn8)
            ·
              refine r_aload_n C dX4_drop_61 rfl 1 rfl ?_
              refine r_get C (Cn := RX4) (T := TX4) (N := 6) (id := (gO 0)) (by simp only [gO, gN, gW, gL, gR, gH] <;> omega) inw_X4 (wF_O cs ad (by decide) _ _) rfl 2 (by decide) rfl fl_X4_18 rfl dX4_drop_62 ?_
              refine r_iload_n C dX4_drop_65 rfl 0 rfl ?_
              refine r_aload_n C dX4_drop_66 rfl 1 rfl ?_
              refine r_get C (Cn := RX4) (T := TX4) (N := 6) (id := (gO 0)) (by simp only [gO, gN, gW, gL, gR, gH] <;> omega) inw_X4 (wF_O cs ad (by decide) _ _) rfl 2 (by decide) rfl fl_X4_18 rfl dX4_drop_67 ?_
              refine r_iload_n C dX4_drop_70 rfl 0 rfl ?_
              refine r_iconst C (nI 1) dX4_drop_71 (by decide) ?_
              refine r_iadd C dX4_drop_72 ?_
              refine r_topi (nI_add j 1) ?_
              refine r_iald C (id := (gN 0)) (n := 8) (a := j + 1) (by simp only [gO, gN, gW, gL, gR, gH] <;> omega) (wF_N cs ad (by decide) _ _) (by omega) (by decide) dX4_drop_73 ?_
              refine r_topi (w := (wo (z (10 + (j + 1))) v)) ((hI_j.2.2.2.2.2.1 (j + 1) (by omega)).trans (by rw [show sh9 v j (j + 1) = j + 1 from if_neg (by omega)])) ?_
              refine r_iast C (id := (gN 0)) (n := 8) (a := j) (by simp only [gO, gN, gW, gL, gR, gH] <;> omega) (fun _ => (wF_N cs ad (by decide) _ _)) (by omega) (by decide) dX4_drop_74 ?_
              refine r_aload_n C dX4_drop_75 rfl 1 rfl ?_
              refine r_get C (Cn := RX4) (T := TX4) (N := 6) (id := (gO 0)) (by simp only [gO, gN, gW, gL, gR, gH] <;> omega) inw_X4 (wF_O cs ad (by decide) _ _) rfl 3 (by decide) rfl fl_X4_22 rfl dX4_drop_76 ?_
              refine r_iload_n C dX4_drop_79 rfl 0 rfl ?_
              refine r_aload_n C dX4_drop_80 rfl 1 rfl ?_
              refine r_get C (Cn := RX4) (T := TX4) (N := 6) (id := (gO 0)) (by simp only [gO, gN, gW, gL, gR, gH] <;> omega) inw_X4 (wF_O cs ad (by decide) _ _) rfl 3 (by decide) rfl fl_X4_22 rfl dX4_drop_81 ?_
              refine r_iload_n C dX4_drop_84 rfl 0 rfl ?_
              refine r_iconst C (nI 1) dX4_drop_85 (by decide) ?_
              refine r_iadd C dX4_drop_86 ?_
              refine r_topi (nI_add j 1) ?_
              refine r_iald C (id := (gW 0)) (n := 8) (a := j + 1) (by simp only [gO, gN, gW, gL, gR, gH] <;> omega) (wF_W cs ad (by decide) _ _) (by omega) (by decide) dX4_drop_87 ?_
              refine r_topi (w := (M4.1 (gW 0) (j + 1))) (by rw [mI_ne _ (show gW 0 ≠ gN 0 from (by simp only [gO, gN, gW, gL, gR, gH] <;> omega))]) ?_
              refine r_topi (w := (z (2 + (j + 1)))) ((hI_j.2.2.2.2.2.2.1 (j + 1) (by omega)).trans (by rw [show sh9 v j (j + 1) = j + 1 from if_neg (by omega)])) ?_
              refine r_iast C (id := (gW 0)) (n := 8) (a := j) (by simp only [gO, gN, gW, gL, gR, gH] <;> omega) (fun _ => (wF_W cs ad (by decide) _ _)) (by omega) (by decide) dX4_drop_88 ?_
              refine r_aload_n C dX4_drop_89 rfl 1 rfl ?_
              refine r_get C (Cn := RX4) (T := TX4) (N := 6) (id := (gO 0)) (by simp only [gO, gN, gW, gL, gR, gH] <;> omega) inw_X4 (wF_O cs ad (by decide) _ _) rfl 4 (by decide) rfl fl_X4_27 rfl dX4_drop_90 ?_
              refine r_iload_n C dX4_drop_93 rfl 0 rfl ?_
              refine r_iconst C (nI 1) dX4_drop_94 (by decide) ?_
              refine r_iadd C dX4_drop_95 ?_
              refine r_topi (nI_add j 1) ?_
              refine r_aald C (id := (gL 0)) (n := 8) (a := j + 1) (id2 := (gR 0 (j + 1))) (t0 := 4) (by simp only [gO, gN, gW, gL, gR, gH] <;> omega) (wF_L cs ad (by decide) _ _) rfl rfl (by omega) (by decide) (if_pos (by omega)) dX4_drop_96 ?_
              refine r_iconst C (nI 0) dX4_drop_97 (by decide) ?_
              refine r_aload_n C dX4_drop_98 rfl 1 rfl ?_
              refine r_get C (Cn := RX4) (T := TX4) (N := 6) (id := (gO 0)) (by simp only [gO, gN, gW, gL, gR, gH] <;> omega) inw_X4 (wF_O cs ad (by decide) _ _) rfl 4 (by decide) rfl fl_X4_27 rfl dX4_drop_99 ?_
              refine r_iload_n C dX4_drop_102 rfl 0 rfl ?_
              refine r_aald C (id := (gL 0)) (n := 8) (a := j) (id2 := (gR 0 j)) (t0 := 4) (by simp only [gO, gN, gW, gL, gR, gH] <;> omega) (wF_L cs ad (by decide) _ _) rfl rfl (by omega) (by decide) (if_pos (by omega)) dX4_drop_103 ?_
              refine r_iconst C (nI 0) dX4_drop_104 (by decide) ?_
              refine r_iconst C (nI 4) dX4_drop_105 (by decide) ?_
              refine r_copyi C (id0 := (gR 0 (j + 1))) (id1 := (gR 0 j)) (n0 := 4) (n1 := 4) (a := 0) (b := 0) (n := 4) (by simp only [gO, gN, gW, gL, gR, gH] <;> omega) (by simp only [gO, gN, gW, gL, gR, gH] <;> omega) (wF_R cs ad (by decide) (by omega) _ _) (fun _ => (wF_R cs ad (by decide) (by omega) _ _)) (by decide) (by decide) (by decide) (by decide) ml_X4_39 na_acopy st_acopy in_J10 (Nat.le_of_ble_eq_true rfl) (Nat.le_of_ble_eq_true rfl) dX4_drop_106 ?_
              refine r_iinc C (nI (j + 1)) [(3, .int (nI (j + 1))), (0, .ref (ad (gO 0))), (1, .int (nI v))] dX4_drop_109 (j := 0) rfl (inc_n j 1) (by decide) rfl ?_
              refine r_goto C 51 dX4_drop_112 (by decide) ?_
              refine r_lv (lv2 := [(3, .int (nI (j + 1))), (0, .ref (ad (gO 0))), (1, .int (nI v))]) [0, 1, 2] rfl ?_
              exact ih_j (j + 1) _ (by omega) (by omega) ⟨by omega, by omega, dr_bs hI_j.2.2 hI_j.2.1 (by omega) hn8 rfl rfl rfl⟩
        refine r_lv (lv2 := [(3, .int (nI v)), (0, .ref (ad (gO 0))), (1, .int (nI v))]) [0, 1, 2] rfl ?_
        exact Lq (n + 1) v _ (by omega) (by omega) ⟨by omega, by omega, dr_b0 hg hI hn8⟩
      ·
        refine r_aload_n C dX4_drop_16 rfl 1 rfl ?_
        refine r_get C (Cn := RX4) (T := TX4) (N := 6) (id := (gO 0)) (by simp only [gO, gN, gW, gL, gR, gH] <;> omega) inw_X4 (wF_O cs ad (by decide) _ _) rfl 2 (by decide) rfl fl_X4_18 rfl dX4_drop_17 ?_
        refine r_iload_n C dX4_drop_20 rfl 0 rfl ?_
        refine r_iald C (id := (gN 0)) (n := 8) (a := k) (by simp only [gO, gN, gW, gL, gR, gH] <;> omega) (wF_N cs ad (by decide) _ _) (by omega) (by decide) dX4_drop_21 ?_
        refine r_topi (w := (z (10 + k))) ((hI.2 k (by omega)).trans (if_neg (Nat.lt_irrefl _))) ?_
        refine r_istore C [(4, .int (z (10 + k))), (3, .int (nI k)), (0, .ref (ad (gO 0))), (1, .int (nI v)), (2, .int ((s1 v) - (nI 1)))] dX4_drop_22 (by decide) rfl ?_
        refine r_aload_n C dX4_drop_24 rfl 2 rfl ?_
        refine r_get C (Cn := RX4) (T := TX4) (N := 6) (id := (gO 0)) (by simp only [gO, gN, gW, gL, gR, gH] <;> omega) inw_X4 (wF_O cs ad (by decide) _ _) rfl 2 (by decide) rfl fl_X4_18 rfl dX4_drop_25 ?_
        refine r_iload_n C dX4_drop_28 rfl 1 rfl ?_
        refine r_iload C dX4_drop_29 0 rfl ?_
        refine r_iload_n C dX4_drop_31 rfl 4 rfl ?_
        refine r_iand C dX4_drop_32 ?_
        refine r_iload C dX4_drop_33 0 rfl ?_
        refine r_iconst C (nI 1) dX4_drop_35 (by decide) ?_
        refine r_ishr C dX4_drop_36 ?_
        refine r_iload_n C dX4_drop_37 rfl 4 rfl ?_
        refine r_iconst C ((-1)) dX4_drop_38 (by decide) ?_
        refine r_ixor C dX4_drop_39 ?_
        refine r_topi (w := ntI ((s1 v) - (nI 1))) rfl ?_
        refine r_iand C dX4_drop_40 ?_
        refine r_ior C dX4_drop_41 ?_
        refine r_iast C (id := (gN 0)) (n := 8) (a := k) (by simp only [gO, gN, gW, gL, gR, gH] <;> omega) (fun _ => (wF_N cs ad (by decide) _ _)) (by omega) (by decide) dX4_drop_42 ?_
        refine r_iinc C (nI (k + 1)) [(3, .int (nI (k + 1))), (4, .int (z (10 + k))), (0, .ref (ad (gO 0))), (1, .int (nI v)), (2, .int ((s1 v) - (nI 1)))] dX4_drop_43 (j := 1) rfl (inc_n k 1) (by decide) rfl ?_
        refine r_goto C 8 dX4_drop_46 (by decide) ?_
        refine r_lv (lv2 := [(3, .int (nI (k + 1))), (0, .ref (ad (gO 0))), (1, .int (nI v)), (2, .int ((s1 v) - (nI 1)))]) [0, 2, 3, 4] rfl ?_
        exact ih (k + 1) _ (by omega) (by omega) (dr_s hI (dr_wo hm (by omega) (by omega)))
  refine r_lv (lv2 := [(3, .int (nI 0)), (0, .ref (ad (gO 0))), (1, .int (nI v)), (2, .int ((s1 v) - (nI 1)))]) [0, 2, 3, 1] rfl ?_
  exact Lp (n + 1) 0 _ (by omega) (by omega) ⟨o1.rf _ _, fun w hw => by rw [if_neg (Nat.not_lt_zero w)]; exact hg.2.2.1 w hw⟩
