/-! ===== the class: colors (written by wip/whole/gen/cls7.py) ===== -/
theorem nmmax {a b : Nat} (ha : a < 2 ^ 31) (hb : b < 2 ^ 31) : (if nI a < nI b then nI b else nI a) = nI (max a b) := by
  by_cases h : a < b
  · rw [if_pos ((nI_ltI ha hb).mpr h), Nat.max_eq_right (by omega)]
  · rw [if_neg (fun q => h ((nI_ltI ha hb).mp q)), Nat.max_eq_left (by omega)]
theorem nmmin {a b : Nat} (ha : a < 2 ^ 31) (hb : b < 2 ^ 31) : (if nI b < nI a then nI b else nI a) = nI (min a b) := by
  by_cases h : b < a
  · rw [if_pos ((nI_ltI hb ha).mpr h), Nat.min_eq_right (by omega)]
  · rw [if_neg (fun q => h ((nI_ltI hb ha).mp q)), Nat.min_eq_left (by omega)]
/-- neighbors are neighbors of each other -/
def gs (z : Nat → Int32) (n : Nat) : Prop := ∀ a b, a < n → b < n → bt (z (10 + a)) b = bt (z (10 + b)) a
theorem ok_f {z c : Nat → Int32} {v a k : Nat} (h1 : bt (z (10 + v)) k = true) (h2 : c k = nI a) : ∀ {m : Nat}, k < m → okS z c v a m = false
  | 0, h => absurd h (Nat.not_lt_zero k)
  | m + 1, h => by
    unfold okS
    by_cases e : k = m
    · subst e; rw [h1, h2]; simp
    · rw [ok_f h1 h2 (m := m) (by omega)]; rfl
/-- the first coloring that goes on from the first v ones, which used some colors, no color left out -/
def pnC (z : Nat → Int32) (K : Nat) : Nat → Nat → Nat → (Nat → Int32) → Option (Nat → Int32)
  | 0, _, _, c => some c
  | m + 1, v, w, c => fsm (fun a => if okS z c v a v = true then pnC z K m (v + 1) (max w (a + 1)) (upd c v (nI a)) else none) (min (w + 1) K) 0
def pnG (z : Nat → Int32) (K m v w : Nat) (c : Nat → Int32) (a : Nat) : Option (Nat → Int32) := if okS z c v a v = true then pnC z K m (v + 1) (max w (a + 1)) (upd c v (nI a)) else none
/-- what paint leaves -/
def pnP (z : Nat → Int32) (K m v w n : Nat) (c : Nat → Int32) (M : Mm) (r : Int32) (M2 : Mm) : Prop := ∃ c2, M2 = mA M 126 c2 ∧ ((∃ x, pnC z K m v w c = some x ∧ r = bI true ∧ ∀ j, j < n → c2 j = x j) ∨ (pnC z K m v w c = none ∧ r = bI false ∧ ∀ j, j < v → c2 j = c j))
def pnI (z : Nat → Int32) (K m v w : Nat) (c : Nat → Int32) (M M3 : Mm) (a : Nat) : Prop := (∃ c3, M3 = mA M 126 c3 ∧ ∀ j, j < v → c3 j = c j) ∧ pnC z K (m + 1) v w c = fsm (pnG z K m v w c) (min (w + 1) K - a) a
theorem mA_idt (M : Mm) (i : Nat) : mA M i (M.1 i) = M := by
  refine mx (fun j => ?_) (fun j => rfl)
  unfold mA; dsimp only; split
  · rename_i h; rw [h]
  · rfl
theorem mA_mA (M : Mm) (i : Nat) (f g : Nat → Int32) : mA (mA M i f) i g = mA M i g := by
  refine mx (fun j => ?_) (fun j => rfl)
  unfold mA; dsimp only; split <;> rfl
theorem mI_mA (M : Mm) (i k : Nat) (f : Nat → Int32) (x : Int32) : mI (mA M i f) i k x = mA M i (upd f k x) := by
  refine mx (fun j => ?_) (fun j => rfl)
  unfold mI mA; dsimp only; split <;> rfl
theorem pn_i0 {z : Nat → Int32} {K m v w : Nat} {c : Nat → Int32} {M : Mm} (hc : ∀ j, j < v → M.1 126 j = c j) : pnI z K m v w c M M 0 := ⟨⟨M.1 126, (mA_idt M 126).symm, hc⟩, rfl⟩
theorem pn_no {z : Nat → Int32} {K m v w a : Nat} {c : Nat → Int32} {M M3 M4 : Mm} (h : pnI z K m v w c M M3 a) (ha : a < min (w + 1) K) (hG : pnG z K m v w c a = none) (h4 : ∃ c3, M4 = mA M3 126 c3 ∧ ∀ j, j < v → c3 j = c j) : pnI z K m v w c M M4 (a + 1) := by
  obtain ⟨⟨c3, rfl, h1⟩, h2⟩ := h
  obtain ⟨c4, rfl, h5⟩ := h4
  refine ⟨⟨c4, mA_mA _ _ _ _, h5⟩, ?_⟩
  rw [h2, show min (w + 1) K - a = (min (w + 1) K - (a + 1)) + 1 by omega, fsm_n hG]
theorem pn_yes {z : Nat → Int32} {K m v w a : Nat} {c x : Nat → Int32} {M M3 : Mm} (h : pnI z K m v w c M M3 a) (ha : a < min (w + 1) K) (hG : pnG z K m v w c a = some x) : pnC z K (m + 1) v w c = some x := by
  rw [h.2, show min (w + 1) K - a = (min (w + 1) K - (a + 1)) + 1 by omega, fsm_s hG]
theorem pn_end {z : Nat → Int32} {K m v w a : Nat} {c : Nat → Int32} {M M3 : Mm} (h : pnI z K m v w c M M3 a) (ha : min (w + 1) K ≤ a) : pnC z K (m + 1) v w c = none := by
  rw [h.2, show min (w + 1) K - a = 0 by omega]; rfl
theorem pn_same {v a : Nat} {z c : Nat → Int32} {M M3 : Mm} {K m w : Nat} (h : pnI z K m v w c M M3 a) : ∃ c3, M3 = mA M3 126 c3 ∧ ∀ j, j < v → c3 j = c j := by
  obtain ⟨⟨c3, rfl, h1⟩, -⟩ := h
  exact ⟨c3, (mA_mA _ _ _ _).symm, h1⟩
theorem pn_back {v a n : Nat} {z c : Nat → Int32} {M M3 M5 : Mm} {K m w : Nat} {c2 : Nat → Int32} (h : pnI z K m v w c M M3 a) (h5 : M5 = mA (mI M3 126 v (nI a)) 126 c2) (hj : ∀ j, j < v + 1 → c2 j = upd c v (nI a) j) : ∃ c3, M5 = mA M3 126 c3 ∧ ∀ j, j < v → c3 j = c j := by
  obtain ⟨⟨c3, rfl, h1⟩, -⟩ := h
  refine ⟨c2, by rw [h5, mI_mA, mA_mA]; rw [mA_mA], fun j hq => by rw [hj j (by omega), upd_n _ _ (by omega)]⟩
theorem pn_out {v a : Nat} {z c : Nat → Int32} {M M3 M5 : Mm} {K m w : Nat} {c2 : Nat → Int32} (h : pnI z K m v w c M M3 a) (h5 : M5 = mA (mI M3 126 v (nI a)) 126 c2) : M5 = mA M 126 c2 := by
  obtain ⟨⟨c3, rfl, h1⟩, -⟩ := h
  rw [h5, mI_mA, mA_mA]
theorem pn_hc {v a : Nat} {z c : Nat → Int32} {M M3 : Mm} {K m w : Nat} (h : pnI z K m v w c M M3 a) : ∀ j, j < v + 1 → (mI M3 126 v (nI a)).1 126 j = upd c v (nI a) j := by
  obtain ⟨⟨c3, rfl, h1⟩, -⟩ := h
  intro j hj
  rw [mI_mA, mA_eq]; exact upd_v h1 j hj
theorem pn_gv {v a n d : Nat} {z c : Nat → Int32} {M M3 : Mm} {K m w : Nat} (hg : gv M 0 (gH 0) z n d) (hn : n ≤ 8) (h : pnI z K m v w c M M3 a) : gv M3 0 (gH 0) z n d := by
  obtain ⟨⟨c3, rfl, h1⟩, -⟩ := h
  exact gv_k hg hn (fun i hi => mA_ne _ (by simp only [gH] at hi; omega))
theorem pn_gv2 {v a n d : Nat} {z c : Nat → Int32} {M M3 : Mm} {K m w : Nat} {x : Int32} (hg : gv M 0 (gH 0) z n d) (hn : n ≤ 8) (h : pnI z K m v w c M M3 a) : gv (mI M3 126 v x) 0 (gH 0) z n d := gv_k (pn_gv hg hn h) hn (fun i hi => mI_ne _ (by simp only [gH] at hi; omega))
set_option maxRecDepth 100000 in
set_option maxHeartbeats 4000000 in
theorem c_X2_isFree (l : Launch) (D : va_G) (cs : Nat → ClassId) (ad : Nat → Nat) (M : Mm) (z : Nat → Int32) (n d : Nat) (hg : gv M 0 (gH 0) z n d) (hn8 : n ≤ 8) (hm : gm z n) (hsy : gs z n) (c : Nat → Int32) (v a : Nat) (hv : v < n) (hc : ∀ j, j < v → M.1 126 j = c j) : ∀ sz : Nat, Met l yX2_isFree (.code yX2_isFree cX2_isFree 5 (some .boolean) :: TT) { frames := 1, cells := 0, slots := 0, locals := 22 } (va_Pc [.ref (ad (gO 0)), .ref (ad 126), .int (nI v), .int (nI a)] (fun U9 => U9.heap.size = sz ∧ wB D cs ad (fA ad sz) M U9)) (va_Qi (fun r M2 => r = bI (okS z c v a v) ∧ M2 = M) (wB D cs ad (fA ad sz)) (fA ad sz)) 0 0 (fA ad sz) := by
  refine st_Z (by decide) (Nat.le_of_ble_eq_true rfl) (fun κ C E => ?_)
  refine r_lv (lv2 := [(0, .ref (ad (gO 0))), (1, .ref (ad 126)), (2, .int (nI v)), (3, .int (nI a))]) [0, 1, 2, 3] rfl ?_
  refine r_iconst C (nI 0) dX2_isFree_0 (by decide) ?_
  refine r_istore C [(4, .int (nI 0)), (0, .ref (ad (gO 0))), (1, .ref (ad 126)), (2, .int (nI v)), (3, .int (nI a))] dX2_isFree_1 (by decide) rfl ?_
  have Lp : ∀ (f k : Nat), v + 1 ≤ k + f → k ≤ v → okS z c v a k = true → VV l D cs ad 5 κ 0 M 3 [(4, .int (nI k)), (0, .ref (ad (gO 0))), (1, .ref (ad 126)), (2, .int (nI v)), (3, .int (nI a))] [] := by
    intro f
    induction f with
    | zero => intro k hk1 hk2 hI; exact absurd hk1 (by omega)
    | succ f ih =>
      intro k hk1 hk2 hI
      refine r_iload C dX2_isFree_3 0 rfl ?_
      refine r_iload_n C dX2_isFree_5 rfl 3 rfl ?_
      refine r_icmpN_ge C 35 dX2_isFree_6 (by decide) (by omega) (by omega) (fun h6 => ?_) (fun h6 => ?_)
      ·
        have hk9 : v = k := by omega
        subst hk9
        refine r_iconst C (nI 1) dX2_isFree_35 (by decide) ?_
        exact E 0 _ _ _ _ (Nat.le_of_ble_eq_true rfl) dX2_isFree_36 rfl (⟨bI_on hI, rfl⟩)
      ·
        refine r_aload_n C dX2_isFree_9 rfl 2 rfl ?_
        refine r_iload C dX2_isFree_10 0 rfl ?_
        refine r_iald C (id := 126) (n := 8) (a := k) (by decide) rfl (by omega) (by decide) dX2_isFree_12 ?_
        refine r_topi (w := (c k)) (hc k (by omega)) ?_
        refine r_iload_n C dX2_isFree_13 rfl 4 rfl ?_
        refine r_icmp_ne C 29 dX2_isFree_14 (by decide) (fun h14 => ?_) (fun h14 => ?_)
        ·
          refine r_iinc C (nI (k + 1)) [(4, .int (nI (k + 1))), (0, .ref (ad (gO 0))), (1, .ref (ad 126)), (2, .int (nI v)), (3, .int (nI a))] dX2_isFree_29 (j := 0) rfl (inc_n k 1) (by decide) rfl ?_
          refine r_goto C 3 dX2_isFree_32 (by decide) ?_
          refine r_lv (lv2 := [(4, .int (nI (k + 1))), (0, .ref (ad (gO 0))), (1, .ref (ad 126)), (2, .int (nI v)), (3, .int (nI a))]) [0, 1, 2, 3, 4] rfl ?_
          exact ih (k + 1) (by omega) (by omega) (by unfold okS; rw [hI, decide_eq_false h14, Bool.not_false, Bool.or_true]; rfl)
        ·
          refine r_aload_n C dX2_isFree_17 rfl 1 rfl ?_
          refine r_iload C dX2_isFree_18 0 rfl ?_
          refine r_iload_n C dX2_isFree_20 rfl 3 rfl ?_
          refine r_pcallV_i (nA := 2) C (Nat.le_of_ble_eq_true rfl) [.int (nI k), .int (nI v)] (c_X4_areJoined l D cs ad M 0  (by decide) (gH 0) z n d hg hn8 hm k v (by omega) (by omega)) (tt_V ml_X2_38 im_X4_areJoined se_X4_areJoined in_X4 co_X4_areJoined) ⟨rfl, rfl⟩ ⟨rfl, by decide, by decide, by decide⟩ ⟨Nat.le_of_ble_eq_true rfl, Nat.le_of_ble_eq_true rfl⟩ (by simp only [gO, gN, gW, gL, gR, gH] <;> omega) (wF_O cs ad (by decide) _ _) rfl rfl rfl rfl (Nat.le_of_ble_eq_true rfl) dX2_isFree_21 ?_
          refine r_ifB_eq C 29 dX2_isFree_24 (by decide) (fun h24 => ?_) (fun h24 => ?_)
          ·
            refine r_iinc C (nI (k + 1)) [(4, .int (nI (k + 1))), (0, .ref (ad (gO 0))), (1, .ref (ad 126)), (2, .int (nI v)), (3, .int (nI a))] dX2_isFree_29 (j := 0) rfl (inc_n k 1) (by decide) rfl ?_
            refine r_goto C 3 dX2_isFree_32 (by decide) ?_
            refine r_lv (lv2 := [(4, .int (nI (k + 1))), (0, .ref (ad (gO 0))), (1, .ref (ad 126)), (2, .int (nI v)), (3, .int (nI a))]) [0, 1, 2, 3, 4] rfl ?_
            exact ih (k + 1) (by omega) (by omega) (by unfold okS; rw [hI, ← hsy k v (by omega) hv, h24]; rfl)
          ·
            refine r_iconst C (nI 0) dX2_isFree_27 (by decide) ?_
            exact E 0 _ _ _ _ (Nat.le_of_ble_eq_true rfl) dX2_isFree_28 rfl (⟨bI_off (ok_f ((hsy v k hv (by omega)).trans h24) h14 (by omega)), rfl⟩)
  refine r_lv (lv2 := [(4, .int (nI 0)), (0, .ref (ad (gO 0))), (1, .ref (ad 126)), (2, .int (nI v)), (3, .int (nI a))]) [0, 1, 2, 3, 4] rfl ?_
  exact Lp (v + 1) 0 (by omega) (by omega) rfl
set_option maxRecDepth 100000 in
set_option maxHeartbeats 4000000 in
theorem c_X2_paint0 (l : Launch) (D : va_G) (cs : Nat → ClassId) (ad : Nat → Nat) (M : Mm) (z : Nat → Int32) (n d : Nat) (hg : gv M 0 (gH 0) z n d) (hn8 : n ≤ 8) (K : Nat) (hK : K ≤ 8) (v w : Nat) (hw : w ≤ v) (c : Nat → Int32) (hc : ∀ j, j < v → M.1 126 j = c j) (hvn : v = n) : ∀ sz : Nat, Met l yX2_paint (.code yX2_paint cX2_paint 6 (some .boolean) :: TT) { frames := 10, cells := 0, slots := 0, locals := 200 } (va_Pc [.ref (ad (gO 0)), .ref (ad 126), .int (nI K), .int (nI v), .int (nI w)] (fun U9 => U9.heap.size = sz ∧ wB D cs ad (fA ad sz) M U9)) (va_Qi (fun r M2 => pnP z K 0 v w n c M r M2) (wB D cs ad (fA ad sz)) (fA ad sz)) 0 0 (fA ad sz) := by
  refine st_Z (by decide) (Nat.le_of_ble_eq_true rfl) (fun κ C E => ?_)
  refine r_lv (lv2 := [(0, .ref (ad (gO 0))), (1, .ref (ad 126)), (2, .int (nI K)), (3, .int (nI v)), (4, .int (nI w))]) [0, 1, 2, 3, 4] rfl ?_
  refine r_iload_n C dX2_paint_0 rfl 3 rfl ?_
  refine r_aload_n C dX2_paint_1 rfl 0 rfl ?_
  refine r_get C (Cn := RX4) (T := TX4) (N := 6) (id := (gO 0)) (by simp only [gO, gN, gW, gL, gR, gH] <;> omega) inw_X4 (wF_O cs ad (by decide) _ _) rfl 0 (by decide) rfl fl_X2_19 rfl dX2_paint_2 ?_
  refine r_topi (w := nI n) hg.1 ?_
  refine r_icmpN_lt C 10 dX2_paint_5 (by decide) (by omega) (by omega) (fun h5 => ?_) (fun h5 => ?_)
  · exact absurd h5 (by omega)
  ·
    refine r_iconst C (nI 1) dX2_paint_8 (by decide) ?_
    exact E 0 _ _ _ _ (Nat.le_of_ble_eq_true rfl) dX2_paint_9 rfl (⟨M.1 126, (mA_idt M 126).symm, Or.inl ⟨c, rfl, rfl, fun j hj => hc j (by omega)⟩⟩)
set_option maxRecDepth 100000 in
set_option maxHeartbeats 4000000 in
theorem c_X2_paintS (l : Launch) (D : va_G) (cs : Nat → ClassId) (ad : Nat → Nat) (M : Mm) (z : Nat → Int32) (n d : Nat) (hg : gv M 0 (gH 0) z n d) (hn8 : n ≤ 8) (hm : gm z n) (hsy : gs z n) (K : Nat) (hK : K ≤ 8) (v w : Nat) (hw : w ≤ v) (c : Nat → Int32) (hc : ∀ j, j < v → M.1 126 j = c j) (m : Nat) (hmv : v + (m + 1) = n) (f2 l2 : Nat) (hf2 : 10 ≤ f2) (hl2 : 200 ≤ l2) (hPn : ∀ (M : Mm) (v w : Nat) (c : Nat → Int32), v + m = n → gv M 0 (gH 0) z n d → w ≤ v → (∀ j, j < v → M.1 126 j = c j) → ∀ sz : Nat, Met l yX2_paint (.code yX2_paint cX2_paint 6 (some .boolean) :: TT) { frames := f2, cells := 0, slots := 0, locals := l2 } (va_Pc [.ref (ad (gO 0)), .ref (ad 126), .int (nI K), .int (nI v), .int (nI w)] (fun U9 => U9.heap.size = sz ∧ wB D cs ad (fA ad sz) M U9)) (va_Qi (fun r M2 => pnP z K m v w n c M r M2) (wB D cs ad (fA ad sz)) (fA ad sz)) 0 0 (fA ad sz)) : ∀ sz : Nat, Met l yX2_paint (.code yX2_paint cX2_paint 6 (some .boolean) :: TT) { frames := f2 + 3, cells := 0, slots := 0, locals := l2 + 60 } (va_Pc [.ref (ad (gO 0)), .ref (ad 126), .int (nI K), .int (nI v), .int (nI w)] (fun U9 => U9.heap.size = sz ∧ wB D cs ad (fA ad sz) M U9)) (va_Qi (fun r M2 => pnP z K (m + 1) v w n c M r M2) (wB D cs ad (fA ad sz)) (fA ad sz)) 0 0 (fA ad sz) := by
  refine st_Z (by decide) (Nat.le_of_ble_eq_true rfl) (fun κ C E => ?_)
  refine r_lv (lv2 := [(0, .ref (ad (gO 0))), (1, .ref (ad 126)), (2, .int (nI K)), (3, .int (nI v)), (4, .int (nI w))]) [0, 1, 2, 3, 4] rfl ?_
  refine r_iload_n C dX2_paint_0 rfl 3 rfl ?_
  refine r_aload_n C dX2_paint_1 rfl 0 rfl ?_
  refine r_get C (Cn := RX4) (T := TX4) (N := 6) (id := (gO 0)) (by simp only [gO, gN, gW, gL, gR, gH] <;> omega) inw_X4 (wF_O cs ad (by decide) _ _) rfl 0 (by decide) rfl fl_X2_19 rfl dX2_paint_2 ?_
  refine r_topi (w := nI n) hg.1 ?_
  refine r_icmpN_lt C 10 dX2_paint_5 (by decide) (by omega) (by omega) (fun h5 => ?_) (fun h5 => ?_)
  ·
    refine r_iconst C (nI 0) dX2_paint_10 (by decide) ?_
    refine r_istore C [(5, .int (nI 0)), (0, .ref (ad (gO 0))), (1, .ref (ad 126)), (2, .int (nI K)), (3, .int (nI v)), (4, .int (nI w))] dX2_paint_11 (by decide) rfl ?_
    have Lp : ∀ (f_a a : Nat) (M4 : Mm), (min (w + 1) K) + 1 ≤ a + f_a → a ≤ (min (w + 1) K) → pnI z K m v w c M M4 a → VV l D cs ad 6 κ 0 M4 13 [(5, .int (nI a)), (0, .ref (ad (gO 0))), (1, .ref (ad 126)), (2, .int (nI K)), (3, .int (nI v)), (4, .int (nI w))] [] := by
      intro f_a
      induction f_a with
      | zero => intro a M4 hk1_a hk2_a hI_a; exact absurd hk1_a (by omega)
      | succ f_a ih_a =>
        intro a M4 hk1_a hk2_a hI_a
        refine r_iload C dX2_paint_13 0 rfl ?_
        refine r_iload C dX2_paint_15 5 rfl ?_
        refine r_icmpN_gt C 71 dX2_paint_17 (by decide) (by omega) (by omega) (fun h17 => ?_) (fun h17 => ?_)
        ·
          refine r_iconst C (nI 0) dX2_paint_71 (by decide) ?_
          exact E 0 _ _ _ _ (Nat.le_of_ble_eq_true rfl) dX2_paint_72 rfl ((by obtain ⟨⟨c3, h1, h2⟩, -⟩ := id hI_a; exact ⟨c3, h1, Or.inr ⟨pn_end hI_a (by omega), rfl, h2⟩⟩))
        ·
          refine r_iload C dX2_paint_20 0 rfl ?_
          refine r_iload_n C dX2_paint_22 rfl 3 rfl ?_
          refine r_icmpN_ge C 71 dX2_paint_23 (by decide) (by omega) (by omega) (fun h23 => ?_) (fun h23 => ?_)
          ·
            refine r_iconst C (nI 0) dX2_paint_71 (by decide) ?_
            exact E 0 _ _ _ _ (Nat.le_of_ble_eq_true rfl) dX2_paint_72 rfl ((by obtain ⟨⟨c3, h1, h2⟩, -⟩ := id hI_a; exact ⟨c3, h1, Or.inr ⟨pn_end hI_a (by omega), rfl, h2⟩⟩))
          ·
            refine r_aload_n C dX2_paint_26 rfl 1 rfl ?_
            refine r_aload_n C dX2_paint_27 rfl 2 rfl ?_
            refine r_iload_n C dX2_paint_28 rfl 4 rfl ?_
            refine r_iload C dX2_paint_29 0 rfl ?_
            refine r_pcallS_i (nA := 4) C (Nat.le_of_ble_eq_true rfl) [.ref (ad (gO 0)), .ref (ad 126), .int (nI v), .int (nI a)] (c_X2_isFree l D cs ad M4  z n d (pn_gv hg hn8 hI_a) hn8 hm hsy c v a (by omega) (by obtain ⟨⟨c3, rfl, h1⟩, -⟩ := hI_a; intro j hj; rw [mA_eq]; exact h1 j hj)) (tt_S ml_X2_28 st_X2_isFree in_X2 co_X2_isFree) ⟨rfl, rfl⟩ ⟨rfl, by decide, by decide, by decide⟩ ⟨by dsimp only; omega, by dsimp only; omega⟩ rfl rfl (Nat.le_of_ble_eq_true rfl) dX2_paint_31 ?_
            refine r_ifB_eq C 65 dX2_paint_34 (by decide) (fun h34 => ?_) (fun h34 => ?_)
            ·
              refine r_iinc C (nI (a + 1)) [(5, .int (nI (a + 1))), (0, .ref (ad (gO 0))), (1, .ref (ad 126)), (2, .int (nI K)), (3, .int (nI v)), (4, .int (nI w))] dX2_paint_65 (j := 0) rfl (inc_n a 1) (by decide) rfl ?_
              refine r_goto C 13 dX2_paint_68 (by decide) ?_
              refine r_lv (lv2 := [(5, .int (nI (a + 1))), (0, .ref (ad (gO 0))), (1, .ref (ad 126)), (2, .int (nI K)), (3, .int (nI v)), (4, .int (nI w))]) [0, 1, 2, 3, 4, 5] rfl ?_
              exact ih_a (a + 1) _ (by omega) (by omega) (pn_no hI_a (by omega) (if_neg (by rw [h34]; decide)) (pn_same hI_a))
            ·
              refine r_aload_n C dX2_paint_37 rfl 2 rfl ?_
              refine r_iload_n C dX2_paint_38 rfl 4 rfl ?_
              refine r_iload C dX2_paint_39 0 rfl ?_
              refine r_iast C (id := 126) (n := 8) (a := v) (by decide) (fun _ => rfl) (by omega) (by decide) dX2_paint_41 ?_
              refine r_aload_n C dX2_paint_42 rfl 1 rfl ?_
              refine r_aload_n C dX2_paint_43 rfl 2 rfl ?_
              refine r_iload_n C dX2_paint_44 rfl 3 rfl ?_
              refine r_iload_n C dX2_paint_45 rfl 4 rfl ?_
              refine r_iconst C (nI 1) dX2_paint_46 (by decide) ?_
              refine r_iadd C dX2_paint_47 ?_
              refine r_topi (nI_add v 1) ?_
              refine r_iload C dX2_paint_48 5 rfl ?_
              refine r_iload C dX2_paint_50 0 rfl ?_
              refine r_iconst C (nI 1) dX2_paint_52 (by decide) ?_
              refine r_iadd C dX2_paint_53 ?_
              refine r_topi (nI_add a 1) ?_
              refine r_mmax C (Nat.le_of_ble_eq_true rfl) ml_X2_32 st_mmax in_J9 co_mmax (by omega) (by simp only [List.map, List.sum_cons, List.sum_nil, Value.category]; omega) dX2_paint_54 ?_
              refine r_topi (nmmax (by omega) (by omega)) ?_
              refine r_callS_i (nA := 5) C (Nat.le_of_ble_eq_true rfl) [.ref (ad (gO 0)), .ref (ad 126), .int (nI K), .int (nI (v + 1)), .int (nI (max w (a + 1)))] (hPn (mI M4 126 v (nI a)) (v + 1) (max w (a + 1)) (upd c v (nI a)) (by omega) (pn_gv2 hg hn8 hI_a) (by omega) (pn_hc hI_a)) (tt_S ml_X2_24 st_X2_paint in_X2 co_X2_paint) ⟨rfl, rfl⟩ ⟨rfl, by decide, by decide, by decide⟩ ⟨by dsimp only; omega, by dsimp only; omega⟩ rfl rfl (Nat.le_of_ble_eq_true rfl) dX2_paint_57 (fun ru1 Mu1 qu1 => ?_)
              obtain ⟨c2, e2, q2⟩ := qu1
              rcases q2 with ⟨x, q2, q3, q4⟩ | ⟨q2, q3, q4⟩
              ·
                subst q3
                refine r_ifB_eq C 65 dX2_paint_60 (by decide) (fun h60 => ?_) (fun h60 => ?_)
                · exact absurd (h60.symm.trans (rfl : true = true)) (by decide)
                ·
                  refine r_iconst C (nI 1) dX2_paint_63 (by decide) ?_
                  exact E 0 _ _ _ _ (Nat.le_of_ble_eq_true rfl) dX2_paint_64 rfl (⟨c2, pn_out hI_a e2, Or.inl ⟨x, pn_yes hI_a (by omega) ((if_pos h34).trans q2), rfl, q4⟩⟩)
              ·
                subst q3
                refine r_ifB_eq C 65 dX2_paint_60 (by decide) (fun h60 => ?_) (fun h60 => ?_)
                ·
                  refine r_iinc C (nI (a + 1)) [(5, .int (nI (a + 1))), (0, .ref (ad (gO 0))), (1, .ref (ad 126)), (2, .int (nI K)), (3, .int (nI v)), (4, .int (nI w))] dX2_paint_65 (j := 0) rfl (inc_n a 1) (by decide) rfl ?_
                  refine r_goto C 13 dX2_paint_68 (by decide) ?_
                  refine r_lv (lv2 := [(5, .int (nI (a + 1))), (0, .ref (ad (gO 0))), (1, .ref (ad 126)), (2, .int (nI K)), (3, .int (nI v)), (4, .int (nI w))]) [0, 1, 2, 3, 4, 5] rfl ?_
                  exact ih_a (a + 1) _ (by omega) (by omega) (pn_no hI_a (by omega) ((if_pos h34).trans q2) (pn_back (n := n) hI_a e2 q4))
                · exact absurd (h60.symm.trans (rfl : false = false)) (by decide)
    refine r_lv (lv2 := [(5, .int (nI 0)), (0, .ref (ad (gO 0))), (1, .ref (ad 126)), (2, .int (nI K)), (3, .int (nI v)), (4, .int (nI w))]) [0, 1, 2, 3, 4, 5] rfl ?_
    exact Lp ((min (w + 1) K) + 1) 0 _ (by omega) (by omega) (pn_i0 hc)
  · exact absurd h5 (by omega)
theorem c_X2_paint (l : Launch) (D : va_G) (cs : Nat → ClassId) (ad : Nat → Nat) (z : Nat → Int32) (n d : Nat) (hn8 : n ≤ 8) (hm : gm z n) (hsy : gs z n) (K : Nat) (hK : K ≤ 8) : ∀ (m : Nat) (M : Mm) (v w : Nat) (c : Nat → Int32), v + m = n → gv M 0 (gH 0) z n d → w ≤ v → (∀ j, j < v → M.1 126 j = c j) → ∀ sz : Nat, Met l yX2_paint (.code yX2_paint cX2_paint 6 (some .boolean) :: TT) { frames := 3 * m + 10, cells := 0, slots := 0, locals := 60 * m + 200 } (va_Pc [.ref (ad (gO 0)), .ref (ad 126), .int (nI K), .int (nI v), .int (nI w)] (fun U9 => U9.heap.size = sz ∧ wB D cs ad (fA ad sz) M U9)) (va_Qi (fun r M2 => pnP z K m v w n c M r M2) (wB D cs ad (fA ad sz)) (fA ad sz)) 0 0 (fA ad sz) := by
  intro m
  induction m with
  | zero => intro M v w c h1 hg h2 h3; exact c_X2_paint0 l D cs ad M z n d hg hn8 K hK v w h2 c h3 (by omega)
  | succ m ih =>
    intro M v w c h1 hg h2 h3
    have h := c_X2_paintS l D cs ad M z n d hg hn8 hm hsy K hK v w h2 c h3 m h1 (3 * m + 10) (60 * m + 200) (by omega) (by omega) ih
    rw [show 3 * m + 10 + 3 = 3 * (m + 1) + 10 by omega, show 60 * m + 200 + 60 = 60 * (m + 1) + 200 by omega] at h
    exact h
/-! the reference tries all colors, the class no more than one new one: the same first coloring -/
theorem fsm_none {α : Type} {g : Nat → Option α} : ∀ {r a : Nat}, fsm g r a = none ↔ ∀ j, a ≤ j → j < a + r → g j = none
  | 0, a => ⟨fun _ j h1 h2 => absurd h2 (by omega), fun _ => rfl⟩
  | r + 1, a => by
    cases h : g a with
    | some x => exact ⟨fun q => (by rw [fsm_s h] at q; cases q), fun q => (by have := q a (by omega) (by omega); rw [h] at this; cases this)⟩
    | none =>
      rw [fsm_n h, fsm_none (r := r) (a := a + 1)]
      constructor
      · intro q j h1 h2
        by_cases e : j = a
        · rw [e]; exact h
        · exact q j (by omega) (by omega)
      · intro q j h1 h2; exact q j (by omega) (by omega)
theorem fsm_cg {α : Type} {g g2 : Nat → Option α} : ∀ {r a : Nat}, (∀ j, a ≤ j → j < a + r → g j = g2 j) → fsm g r a = fsm g2 r a
  | 0, _, _ => rfl
  | r + 1, a, h => by
    cases hg : g a with
    | some x => rw [fsm_s hg, fsm_s ((h a (by omega) (by omega)).symm.trans hg)]
    | none => rw [fsm_n hg, fsm_n ((h a (by omega) (by omega)).symm.trans hg)]; exact fsm_cg (fun j h1 h2 => h j (by omega) (by omega))
theorem fsm_ap {α : Type} {g : Nat → Option α} {q : Nat} : ∀ {r a : Nat}, (∀ j, a + r ≤ j → j < a + (r + q) → fsm g r a = none → g j = none) → fsm g (r + q) a = fsm g r a
  | 0, a, h => by
    show fsm g (0 + q) a = none
    rw [fsm_none]; intro j h1 h2; exact h j (by omega) (by omega) rfl
  | r + 1, a, h => by
    rw [show r + 1 + q = (r + q) + 1 by omega]
    cases hg : g a with
    | some x => rw [fsm_s hg, fsm_s hg]
    | none =>
      rw [fsm_n hg, fsm_n hg]
      exact fsm_ap (fun j h1 h2 h3 => h j (by omega) (by omega) (by rw [fsm_n hg]; exact h3))
theorem try_none {z : Nat → Int32} {K m v : Nat} {c : Nat → Int32} : tryC z K (m + 1) v c = none ↔ ∀ a, a < K → okS z c v a v = true → tryC z K m (v + 1) (upd c v (nI a)) = none := by
  show fsm _ K 0 = none ↔ _
  rw [fsm_none]
  constructor
  · intro h a ha ho
    have := h a (by omega) (by omega)
    rwa [if_pos ho] at this
  · intro h a _ ha
    by_cases ho : okS z c v a v = true
    · rw [if_pos ho]; exact h a (by omega) ho
    · rw [if_neg ho]
theorem ok_cg {z c c2 : Nat → Int32} {v a : Nat} : ∀ {k : Nat}, (∀ j, j < k → c j = c2 j) → okS z c v a k = okS z c2 v a k
  | 0, _ => rfl
  | k + 1, h => by
    unfold okS; rw [ok_cg (fun j hj => h j (by omega)), h k (by omega)]
theorem tr_cg {z : Nat → Int32} {K : Nat} : ∀ {m v : Nat} {c c2 : Nat → Int32}, (∀ j, j < v → c j = c2 j) → tryC z K m v c = none → tryC z K m v c2 = none
  | 0, _, _, _, _, h => by cases h
  | m + 1, v, c, c2, hc, h => by
    rw [try_none] at h ⊢
    intro a ha ho
    exact tr_cg (upd_v hc) (h a ha (by rw [ok_cg hc]; exact ho))
def swI (a b : Nat) (x : Int32) : Int32 := if x = nI a then nI b else if x = nI b then nI a else x
def swN (a b e : Nat) : Nat := if e = a then b else if e = b then a else e
theorem sw_nI {a b e : Nat} (ha : a < 8) (hb : b < 8) (he : e < 8) : swI a b (nI e) = nI (swN a b e) := by
  unfold swI swN
  by_cases h1 : e = a
  · rw [if_pos h1, if_pos (by rw [h1])]
  · rw [if_neg h1, if_neg (fun q => h1 ((nI_eq (by omega) (by omega)).mp q))]
    by_cases h2 : e = b
    · rw [if_pos h2, if_pos (by rw [h2])]
    · rw [if_neg h2, if_neg (fun q => h2 ((nI_eq (by omega) (by omega)).mp q))]
theorem sw_sw {a b : Nat} {x : Int32} : swI a b (swI a b x) = x := by
  unfold swI
  by_cases h1 : x = nI a
  · rw [if_pos h1]; by_cases h3 : nI b = nI a
    · rw [if_pos h3, h1, h3]
    · rw [if_neg h3, if_pos rfl, h1]
  · rw [if_neg h1]
    by_cases h2 : x = nI b
    · rw [if_pos h2, if_pos rfl, h2]
    · rw [if_neg h2, if_neg h1, if_neg h2]
theorem swN_swN {a b e : Nat} : swN a b (swN a b e) = e := by
  unfold swN; repeat' split
  all_goals first | rfl | omega
theorem swN_lt {a b e K : Nat} (ha : a < K) (hb : b < K) (he : e < K) : swN a b e < K := by
  unfold swN; repeat' split
  all_goals assumption
theorem ok_sw {z c : Nat → Int32} {v a b e : Nat} (ha : a < 8) (hb : b < 8) (he : e < 8) : ∀ {k : Nat}, okS z (fun j => swI a b (c j)) v (swN a b e) k = okS z c v e k
  | 0 => rfl
  | k + 1 => by
    unfold okS
    rw [ok_sw ha hb he]
    have : decide (swI a b (c k) = nI (swN a b e)) = decide (c k = nI e) := by
      rw [← sw_nI ha hb he]
      exact decide_eq_decide.mpr ⟨fun q => by have := congrArg (swI a b) q; rwa [sw_sw, sw_sw] at this, fun q => by rw [q]⟩
    rw [this]
theorem tr_sw {z : Nat → Int32} {K a b : Nat} (hK : K ≤ 8) (ha : a < K) (hb : b < K) : ∀ {m v : Nat} {c : Nat → Int32}, tryC z K m v c = none → tryC z K m v (fun j => swI a b (c j)) = none
  | 0, _, _, h => by cases h
  | m + 1, v, c, h => by
    rw [try_none] at h ⊢
    intro e he ho
    have hl := swN_lt ha hb he
    have h2 := h (swN a b e) hl (by rw [← ok_sw (a := a) (b := b) (by omega) (by omega) (by omega), swN_swN]; exact ho)
    have h3 := tr_sw hK ha hb h2
    refine tr_cg (fun j _ => ?_) h3
    unfold upd
    by_cases q : j = v
    · rw [if_pos q, if_pos q, sw_nI (by omega) (by omega) (by omega), swN_swN]
    · rw [if_neg q, if_neg q]
theorem ok_fr {z c : Nat → Int32} {v a : Nat} : ∀ {k : Nat}, (∀ j, j < k → c j ≠ nI a) → okS z c v a k = true
  | 0, _ => rfl
  | k + 1, h => by
    unfold okS; rw [ok_fr (fun j hj => h j (by omega)), decide_eq_false (h k (by omega))]; simp
theorem tr_fr {z c : Nat → Int32} {K m v a b : Nat} (hK : K ≤ 8) (ha : a < K) (hb : b < K) (h1 : ∀ j, j < v → c j ≠ nI a) (h2 : ∀ j, j < v → c j ≠ nI b) (h : tryC z K m (v + 1) (upd c v (nI a)) = none) : tryC z K m (v + 1) (upd c v (nI b)) = none := by
  refine tr_cg (fun j hj => ?_) (tr_sw hK ha hb h)
  unfold upd
  by_cases q : j = v
  · rw [if_pos q, if_pos q]; unfold swI; rw [if_pos rfl]
  · rw [if_neg q, if_neg q]; unfold swI; rw [if_neg (h1 j (by omega)), if_neg (h2 j (by omega))]
theorem pn_try {z : Nat → Int32} {K : Nat} (hK : K ≤ 8) : ∀ {m v w : Nat} {c : Nat → Int32}, w ≤ 8 → v + m ≤ 8 → w ≤ v → (∀ j, j < v → ∃ e, e < w ∧ c j = nI e) → pnC z K m v w c = tryC z K m v c
  | 0, _, _, _, _, _, _, _ => rfl
  | m + 1, v, w, c, hw, hvm, hwv, hc => by
    show fsm (pnG z K m v w c) (min (w + 1) K) 0 = fsm (fun a => if okS z c v a v = true then tryC z K m (v + 1) (upd c v (nI a)) else none) K 0
    have hne : ∀ a, w ≤ a → a < 8 → ∀ j, j < v → c j ≠ nI a := fun a h1 h2 j hj q => by
      obtain ⟨e, he, e2⟩ := hc j hj
      rw [e2] at q
      have := (nI_eq (by omega) (by omega)).mp q
      omega
    have e1 : fsm (pnG z K m v w c) (min (w + 1) K) 0 = fsm (fun a => if okS z c v a v = true then tryC z K m (v + 1) (upd c v (nI a)) else none) (min (w + 1) K) 0 := fsm_cg (fun a _ ha => by
      unfold pnG
      by_cases ho : okS z c v a v = true
      · rw [if_pos ho, if_pos ho]
        refine pn_try hK (by omega) (by omega) (by omega) (fun j hj => ?_)
        unfold upd
        by_cases q : j = v
        · exact ⟨a, by omega, if_pos q⟩
        · obtain ⟨e, he, e2⟩ := hc j (by omega)
          exact ⟨e, by omega, by rw [if_neg q]; exact e2⟩
      · rw [if_neg ho, if_neg ho])
    rw [e1]
    have hsp : min (w + 1) K + (K - min (w + 1) K) = K := by omega
    suffices hs : fsm (fun a => if okS z c v a v = true then tryC z K m (v + 1) (upd c v (nI a)) else none) (min (w + 1) K + (K - min (w + 1) K)) 0 = fsm (fun a => if okS z c v a v = true then tryC z K m (v + 1) (upd c v (nI a)) else none) (min (w + 1) K) 0 by
      rw [hsp] at hs; exact hs.symm
    refine fsm_ap (fun a h1 h2 h3 => ?_)
    have hT : min (w + 1) K = w + 1 := by omega
    rw [fsm_none] at h3
    have h4 := h3 w (by omega) (by omega)
    rw [if_pos (ok_fr (hne w (by omega) (by omega)))] at h4
    by_cases ho : okS z c v a v = true
    · rw [if_pos ho]; exact tr_fr hK (by omega) (by omega) (hne w (by omega) (by omega)) (hne a (by omega) (by omega)) h4
    · rw [if_neg ho]
/-- so many colors as vertices do -/
theorem ex_try {z : Nat → Int32} {K : Nat} (hK : K ≤ 8) : ∀ {m v : Nat} {c : Nat → Int32}, v + m ≤ K → (∀ j, j < v → ∃ e, e < v ∧ c j = nI e) → tryC z K m v c ≠ none
  | 0, _, _, _, _ => fun h => by cases h
  | m + 1, v, c, hv, hc => fun h => by
    rw [try_none] at h
    have hf : ∀ j, j < v → c j ≠ nI v := fun j hj q => by
      obtain ⟨e, he, e2⟩ := hc j hj
      rw [e2] at q
      have := (nI_eq (by omega) (by omega)).mp q
      omega
    refine ex_try hK (m := m) (v := v + 1) (c := upd c v (nI v)) (by omega) (fun j hj => ?_) (h v (by omega) (ok_fr hf))
    unfold upd
    by_cases q : j = v
    · exact ⟨v, by omega, if_pos q⟩
    · obtain ⟨e, he, e2⟩ := hc j (by omega)
      exact ⟨e, by omega, by rw [if_neg q]; exact e2⟩
theorem fi_lt {p : Nat → Bool} : ∀ {n k : Nat}, k < n → p k = true → fi p n < n
  | 0, k, h, _ => absurd h (Nat.not_lt_zero k)
  | n + 1, k, h, hp => by
    have hl := fi_le p n
    unfold fi
    split
    · omega
    · rename_i q
      by_cases e : k = n
      · rw [← e, if_pos hp]; omega
      · exact absurd (fi_lt (n := n) (by omega) hp) q
/-- there is a coloring -/
theorem co_ex (z : Nat → Int32) {n : Nat} (hn : n ≤ 8) (hn1 : 1 ≤ n) : fi (fun k => (cfC z n k).isSome) n < n := by
  refine fi_lt (k := n - 1) (by omega) ?_
  have h : cfC z n (n - 1) ≠ none := ex_try (by omega) (by omega) (fun j hj => absurd hj (Nat.not_lt_zero j))
  cases q : cfC z n (n - 1) with
  | none => exact absurd q h
  | some x => rfl
theorem pn_cf {z : Nat → Int32} {n k : Nat} (hn : n ≤ 8) (hk : k < 8) : pnC z (k + 1) n 0 0 cl0 = cfC z n k := pn_try (by omega) (by omega) (by omega) (Nat.le_refl 0) (fun j hj => absurd hj (Nat.not_lt_zero j))
/-- what find leaves -/
def fnP (z : Nat → Int32) (n : Nat) (M M2 : Mm) : Prop := (∀ i, i ≠ 125 → i ≠ 126 → M2.1 i = M.1 i) ∧ M2.2 = M.2 ∧ M2.1 125 1 = nI (cnK z n) ∧ ∀ j, j < n → M2.1 126 j = crs z n j
def fnI (z : Nat → Int32) (n k : Nat) (M M3 : Mm) : Prop := (∃ c, M3 = mA M 126 c) ∧ ∀ j, j < k - 1 → (cfC z n j).isSome = false
theorem fn_s {z : Nat → Int32} {n k : Nat} {M M3 M4 : Mm} (h : fnI z n k M M3) (hk1 : 1 ≤ k) (hk : k ≤ n) (hn : n ≤ 8) {c2 : Nat → Int32} (e : M4 = mA M3 126 c2) (q : pnC z k n 0 0 cl0 = none) : fnI z n (k + 1) M M4 := by
  obtain ⟨⟨c, rfl⟩, h2⟩ := h
  refine ⟨⟨c2, by rw [e, mA_mA]⟩, fun j hj => ?_⟩
  by_cases e : j = k - 1
  · rw [e, ← pn_cf hn (by omega), show k - 1 + 1 = k by omega, q]; rfl
  · exact h2 j (by omega)
theorem fn_e {z : Nat → Int32} {n k : Nat} {M M3 M4 : Mm} (h : fnI z n k M M3) (hk1 : 1 ≤ k) (hk : k ≤ n) (hn : n ≤ 8) {c2 x : Nat → Int32} (e : M4 = mA M3 126 c2) (q : pnC z k n 0 0 cl0 = some x) (q4 : ∀ j, j < n → c2 j = x j) : fnP z n M (mI M4 125 1 (nI k)) := by
  obtain ⟨⟨c, rfl⟩, h2⟩ := h
  have hcf : cfC z n (k - 1) = some x := by rw [← pn_cf hn (by omega), show k - 1 + 1 = k by omega]; exact q
  have hf : fi (fun k => (cfC z n k).isSome) n = k - 1 := fi_at (by omega) (by show (cfC z n (k - 1)).isSome = true; rw [hcf]; rfl) (fun j hj => h2 j hj)
  subst e
  refine ⟨fun i h1 h2 => ?_, rfl, ?_, fun j hj => ?_⟩
  · rw [mI_ne _ h1, mA_mA, mA_ne _ h2]
  · rw [mI_eq, upd_e]; unfold cnK; rw [hf, show k - 1 + 1 = k by omega]
  · rw [mI_ne _ (by decide), mA_eq, q4 j hj]; unfold crs; rw [hf, hcf]; rfl
set_option maxRecDepth 100000 in
set_option maxHeartbeats 4000000 in
theorem c_X2_find (l : Launch) (D : va_G) (cs : Nat → ClassId) (ad : Nat → Nat) (M : Mm) (z : Nat → Int32) (n d : Nat) (hg : gv M 0 (gH 0) z n d) (hn8 : n ≤ 8) (hm : gm z n) (hsy : gs z n) (hn1 : 1 ≤ n) : ∀ sz : Nat, Met l yX2_find (.code yX2_find cX2_find 3 none :: TT) { frames := 40, cells := 0, slots := 0, locals := 1000 } (va_Pc [.ref (ad 125), .ref (ad (gO 0))] (fun U9 => U9.heap.size = sz ∧ wB D cs ad (fA ad sz) M U9)) (va_Qv (fun M2 => fnP z n M M2) (wB D cs ad (fA ad sz)) (fA ad sz)) 0 0 (fA ad sz) := by
  refine st_V (by decide) (Nat.le_of_ble_eq_true rfl) (fun κ C E => ?_)
  refine r_lv (lv2 := [(0, .ref (ad 125)), (1, .ref (ad (gO 0)))]) [0, 1] rfl ?_
  refine r_iconst C (nI 1) dX2_find_0 (by decide) ?_
  refine r_istore_n C [(2, .int (nI 1)), (0, .ref (ad 125)), (1, .ref (ad (gO 0)))] dX2_find_1 rfl (by decide) rfl ?_
  have Lp : ∀ (f k : Nat) (M3 : Mm), (n + 1) + 1 ≤ k + f → k ≤ (n + 1) → (1 ≤ k ∧ fnI z n k M M3) → VV l D cs ad 3 κ 0 M3 2 [(2, .int (nI k)), (0, .ref (ad 125)), (1, .ref (ad (gO 0)))] [] := by
    intro f
    induction f with
    | zero => intro k M3 hk1 hk2 hI; exact absurd hk1 (by omega)
    | succ f ih =>
      intro k M3 hk1 hk2 hI
      refine r_iload_n C dX2_find_2 rfl 0 rfl ?_
      refine r_aload_n C dX2_find_3 rfl 2 rfl ?_
      refine r_get C (Cn := RX4) (T := TX4) (N := 6) (id := (gO 0)) (by simp only [gO, gN, gW, gL, gR, gH] <;> omega) inw_X4 (wF_O cs ad (by decide) _ _) rfl 0 (by decide) rfl fl_X2_19 rfl dX2_find_4 ?_
      refine r_topi (w := nI n) (by obtain ⟨⟨c9, e9⟩, -⟩ := hI.2; rw [e9, mA_ne _ (by decide)]; exact hg.1) ?_
      refine r_icmpN_gt C 36 dX2_find_7 (by decide) (by omega) (by omega) (fun h7 => ?_) (fun h7 => ?_)
      ·
        exact absurd (fi_none (p := fun k => (cfC z n k).isSome) (fun j hj => hI.2.2 j (by omega))) (Nat.ne_of_lt (co_ex z hn8 hn1))
      ·
        refine r_aload_n C dX2_find_10 rfl 2 rfl ?_
        refine r_aload_n C dX2_find_11 rfl 1 rfl ?_
        refine r_get C (Cn := RX2) (T := TX2) (N := 2) (id := 125) (by decide) inw_X2 rfl rfl 0 (by decide) rfl fl_X2_9 rfl dX2_find_12 ?_
        refine r_iload_n C dX2_find_15 rfl 0 rfl ?_
        refine r_iconst C (nI 0) dX2_find_16 (by decide) ?_
        refine r_iconst C (nI 0) dX2_find_17 (by decide) ?_
        refine r_callS_i (nA := 5) C (Nat.le_of_ble_eq_true rfl) [.ref (ad (gO 0)), .ref (ad 126), .int (nI k), .int (nI 0), .int (nI 0)] (c_X2_paint l D cs ad z n d hn8 hm hsy k (by omega) n M3 0 0 cl0 (by omega) (by obtain ⟨⟨c9, e9⟩, -⟩ := hI.2; rw [e9]; exact gv_k hg hn8 (fun i hi => mA_ne _ (by simp only [gH] at hi; omega))) (Nat.le_refl 0) (fun j hj => absurd hj (Nat.not_lt_zero j))) (tt_S ml_X2_24 st_X2_paint in_X2 co_X2_paint) ⟨rfl, rfl⟩ ⟨rfl, by decide, by decide, by decide⟩ ⟨by dsimp only; omega, by dsimp only; omega⟩ rfl rfl (Nat.le_of_ble_eq_true rfl) dX2_find_18 (fun ru1 Mu1 qu1 => ?_)
        obtain ⟨c2, e2, q2⟩ := qu1
        rcases q2 with ⟨x, q2, q3, q4⟩ | ⟨q2, q3, q4⟩
        ·
          subst q3
          refine r_ifB_eq C 30 dX2_find_21 (by decide) (fun h21 => ?_) (fun h21 => ?_)
          · exact absurd (h21.symm.trans (rfl : true = true)) (by decide)
          ·
            refine r_aload_n C dX2_find_24 rfl 1 rfl ?_
            refine r_iload_n C dX2_find_25 rfl 0 rfl ?_
            refine r_put C (M2 := (mI Mu1 125 1 (nI k))) (Cn := RX2) (T := TX2) (N := 2) (id := 125) (by decide) inw_X2 tyX2_ok nmX2 rfl rfl 1 (by decide) rfl fl_X2_15 rfl rfl (rfl) (Nat.le_of_ble_eq_true rfl) (fun j hj => ⟨mI_ne _ hj, rfl⟩) rfl dX2_find_26 ?_
            exact E 0 _ _ _ (Nat.le_of_ble_eq_true rfl) dX2_find_29 (fn_e hI.2 hI.1 (by omega) hn8 e2 q2 q4)
        ·
          subst q3
          refine r_ifB_eq C 30 dX2_find_21 (by decide) (fun h21 => ?_) (fun h21 => ?_)
          ·
            refine r_iinc C (nI (k + 1)) [(2, .int (nI (k + 1))), (0, .ref (ad 125)), (1, .ref (ad (gO 0)))] dX2_find_30 (j := 0) rfl (inc_n k 1) (by decide) rfl ?_
            refine r_goto C 2 dX2_find_33 (by decide) ?_
            refine r_lv (lv2 := [(2, .int (nI (k + 1))), (0, .ref (ad 125)), (1, .ref (ad (gO 0)))]) [0, 1, 2] rfl ?_
            exact ih (k + 1) _ (by omega) (by omega) ⟨by omega, fn_s hI.2 hI.1 (by omega) hn8 e2 q2⟩
          · exact absurd (h21.symm.trans (rfl : false = false)) (by decide)
  refine r_lv (lv2 := [(2, .int (nI 1)), (0, .ref (ad 125)), (1, .ref (ad (gO 0)))]) [0, 1, 2] rfl ?_
  exact Lp ((n + 1) + 1) 1 _ (by omega) (by omega) ⟨by omega, ⟨M.1 126, (mA_idt M 126).symm⟩, fun j hj => absurd hj (by omega)⟩
