/-! ===== the class: a graph's changes (written by wip/whole/gen/cls2.py) ===== -/
/-- nothing but the things of graph g has changed -/
def oG (g : Nat) (M M2 : Mm) : Prop := (∀ i, ¬ (13 * g ≤ i ∧ i < 13 * g + 13) → M2.1 i = M.1 i) ∧ M2.2 = M.2
theorem oG.rf (g : Nat) (M : Mm) : oG g M M := ⟨fun _ _ => rfl, rfl⟩
theorem oG.tr {g : Nat} {M M2 M3 : Mm} (h : oG g M M2) (h2 : oG g M2 M3) : oG g M M3 := ⟨fun i hi => (h2.1 i hi).trans (h.1 i hi), h2.2.trans h.2⟩
theorem oG.I {g : Nat} {M M3 : Mm} (h : oG g M M3) {i k : Nat} {x : Int32} (hi : 13 * g ≤ i ∧ i < 13 * g + 13) : oG g M (mI M3 i k x) := ⟨fun j hj => (mI_ne M3 (fun e => hj (by rw [e]; exact hi))).trans (h.1 j hj), h.2⟩
theorem oG.A {g : Nat} {M M3 : Mm} (h : oG g M M3) {i : Nat} {f : Nat → Int32} (hi : 13 * g ≤ i ∧ i < 13 * g + 13) : oG g M (mA M3 i f) := ⟨fun j hj => (mA_ne M3 (fun e => hj (by rw [e]; exact hi))).trans (h.1 j hj), h.2⟩
theorem oG.F {g : Nat} {M M3 M4 : Mm} (h : oG g M M3) {i : Nat} (hi : 13 * g ≤ i ∧ i < 13 * g + 13) (h1 : ∀ j, j ≠ i → M4.1 j = M3.1 j) (h2 : M4.2 = M3.2) : oG g M M4 := ⟨fun j hj => (h1 j (fun e => hj (by rw [e]; exact hi))).trans (h.1 j hj), h2.trans h.2⟩
/-- nothing but the thing i has changed -/
def o1 (i : Nat) (M M2 : Mm) : Prop := (∀ j, j ≠ i → M2.1 j = M.1 j) ∧ M2.2 = M.2
theorem o1.rf (i : Nat) (M : Mm) : o1 i M M := ⟨fun _ _ => rfl, rfl⟩
theorem o1.I {i : Nat} {M M3 : Mm} (h : o1 i M M3) {k : Nat} {x : Int32} : o1 i M (mI M3 i k x) := ⟨fun j hj => (mI_ne M3 hj).trans (h.1 j hj), h.2⟩
theorem or_jb (x : Int32) (b : Nat) : x ||| s1 b = jb x b true := by
  unfold jb ntI
  rw [if_pos rfl]
  apply Int32.toBitVec_inj.mp
  simp only [Int32.toBitVec_or, Int32.toBitVec_and, Int32.toBitVec_xor]
  rw [show (-1 : Int32).toBitVec = BitVec.allOnes 32 from rfl]
  ext i hi
  simp only [BitVec.getElem_or, BitVec.getElem_and, BitVec.getElem_xor, BitVec.getElem_allOnes]
  cases h1 : x.toBitVec[i] <;> cases h2 : (s1 b).toBitVec[i] <;> rfl
theorem an_jb (x : Int32) (b : Nat) : x &&& ntI (s1 b) = jb x b false := by
  unfold jb
  rw [if_neg (by decide)]
  exact (Int32.or_zero).symm
theorem gv_k {M M2 : Mm} {g gi : Nat} {z : Nat → Int32} {n d : Nat} (h : gv M g gi z n d) (hn : n ≤ 8) (hk : ∀ i, (13 * g ≤ i ∧ i < 13 * g + 13) ∨ i = gi → M2.1 i = M.1 i) : gv M2 g gi z n d := by
  obtain ⟨h1, h2, h3, h4, h5, h6⟩ := h
  refine ⟨by rw [hk _ (Or.inl (by simp only [gO]; omega))]; exact h1, by rw [hk _ (Or.inl (by simp only [gO]; omega))]; exact h2, fun v hv => by rw [hk _ (Or.inl (by simp only [gN]; omega))]; exact h3 v hv, fun v hv => by rw [hk _ (Or.inl (by simp only [gW]; omega))]; exact h4 v hv, fun v p hv hp => by rw [hk _ (Or.inl (by simp only [gR]; omega))]; exact h5 v p hv hp, fun p hp => by rw [hk _ (Or.inr rfl)]; exact h6 p hp⟩
/-- a changed row of masks -/
theorem gv_N {M M3 : Mm} {g gi : Nat} {z y : Nat → Int32} {n d : Nat} (h : gv M g gi z n d) (h3 : ∀ i, i ≠ gN g → M3.1 i = M.1 i) (hi : gi ≠ gN g) (hy : ∀ v, v < n → M3.1 (gN g) v = y (10 + v)) (hz : ∀ j, (j < 10 ∨ 10 + n ≤ j) → y j = z j) (hn : n ≤ 8) : gv M3 g gi y n d := by
  obtain ⟨g1, g2, g3, g4, g5, g6⟩ := h
  refine ⟨by rw [h3 _ (by simp only [gO, gN]; omega)]; exact g1, by rw [h3 _ (by simp only [gO, gN]; omega)]; exact g2, hy, fun v hv => by rw [h3 _ (by simp only [gW, gN]; omega), hz _ (by omega)]; exact g4 v hv, fun v p hv hp => by rw [h3 _ (by simp only [gR, gN]; omega), hz _ (by omega)]; exact g5 v p hv hp, fun p hp => by rw [h3 _ hi, hz _ (by omega)]; exact g6 p hp⟩
theorem co_gv {M : Mm} {z : Nat → Int32} {n d a b : Nat} {i : Bool} {x y : Int32} (h : gv M 0 (gH 0) z n d) (hn : n ≤ 8) (ha : a < n) (hb : b < n) (hx : x = jb (z (10 + a)) b i) (hy : y = jb (z (10 + b)) a i) : gv (mI (mI M (gN 0) a x) (gN 0) b y) 0 (gH 0) (joR z a b i) n d := by
  subst hx; subst hy
  refine gv_N h (fun i hi => by rw [mI_ne _ hi, mI_ne _ hi]) (by decide) (fun v hv => ?_) (fun j hj => ?_) hn
  · rw [mI_eq, mI_eq]
    simp only [joR, upd]
    repeat' split
    all_goals first | rfl | (exfalso; omega) | exact h.2.2.1 v hv
  · unfold joR upd
    rw [if_neg (by omega), if_neg (by omega)]
def flI (M M3 : Mm) (z : Nat → Int32) (n k : Nat) : Prop := o1 (gN 0) M M3 ∧ ∀ v, v < n → M3.1 (gN 0) v = if v < k then cv n v (z (10 + v)) else z (10 + v)
theorem fl_s {M M3 : Mm} {z : Nat → Int32} {n k : Nat} (h : flI M M3 z n k) : flI M (mI M3 (gN 0) k (cv n k (z (10 + k)))) z n (k + 1) := by
  refine ⟨h.1.I, fun v hv => ?_⟩
  rw [mI_eq]; unfold upd
  by_cases e : v = k
  · subst e; rw [if_pos rfl, if_pos (by omega)]
  · rw [if_neg e, h.2 v hv]
    by_cases q : v < k
    · rw [if_pos q, if_pos (by omega)]
    · rw [if_neg q, if_neg (by omega)]
theorem fl_e {M M3 : Mm} {z : Nat → Int32} {n d : Nat} (hg : gv M 0 (gH 0) z n d) (hn : n ≤ 8) (h : flI M M3 z n n) : gv M3 0 (gH 0) (cpl z n n) n d := gv_N hg h.1.1 (by decide) (fun v hv => by
    rw [h.2 v hv, if_pos hv]; unfold cpl
    rw [if_pos (by omega), show 10 + v - 10 = v by omega]) (fun j hj => by unfold cpl; rw [if_neg (by omega)]) hn
theorem o1.G {M M3 : Mm} {g i : Nat} (h : o1 i M M3) (hi : 13 * g ≤ i ∧ i < 13 * g + 13) : oG g M M3 := (oG.rf g M).F hi h.1 h.2
/-- what fill leaves -/
def fiP (i n : Nat) (v : Int32) (M M2 : Mm) : Prop := o1 i M M2 ∧ ∀ j, j < n → M2.1 i j = v
def fiI (i k : Nat) (v : Int32) (M M3 : Mm) : Prop := o1 i M M3 ∧ ∀ j, j < k → M3.1 i j = v
theorem fi_s {i k : Nat} {v : Int32} {M M3 : Mm} (h : fiI i k v M M3) : fiI i (k + 1) v M (mI M3 i k v) := by
  refine ⟨h.1.I, fun j hj => ?_⟩
  rw [mI_eq]; unfold upd
  by_cases e : j = k
  · rw [if_pos e]
  · rw [if_neg e]; exact h.2 j (by omega)
set_option maxRecDepth 100000 in
set_option maxHeartbeats 4000000 in
theorem c_fill (l : Launch) (D : va_G) (cs : Nat → ClassId) (ad : Nat → Nat) (M : Mm) (i1 n1 : Nat) (h1 : i1 < 140) (e1 : ∀ x y, wF cs ad i1 x y = .inl (cs 0, n1, .inl x)) (hn1 : n1 < 2 ^ 31) (v : Int32) : ∀ sz : Nat, Met l yJ7_fill_53178 (.code yJ7_fill_53178 cJ7_fill_53178 4 none :: TT) { frames := 0, cells := 0, slots := 0, locals := 0 } (va_Pc [.ref (ad i1), .int v] (fun U9 => U9.heap.size = sz ∧ wB D cs ad (fA ad sz) M U9)) (va_Qv (fun M2 => fiP i1 n1 v M M2) (wB D cs ad (fA ad sz)) (fA ad sz)) 0 0 (fA ad sz) := by
  refine st_V (by decide) (Nat.le_of_ble_eq_true rfl) (fun κ C E => ?_)
  refine r_lv (lv2 := [(0, .ref (ad i1)), (1, .int v)]) [0, 1] rfl ?_
  refine r_iconst C (nI 0) dJ7_fill_53178_0 (by decide) ?_
  refine r_istore_n C [(2, .int (nI 0)), (0, .ref (ad i1)), (1, .int v)] dJ7_fill_53178_1 rfl (by decide) rfl ?_
  refine r_aload_n C dJ7_fill_53178_2 rfl 1 rfl ?_
  refine r_alen C h1 (e1 _ _) dJ7_fill_53178_3 ?_
  refine r_istore_n C [(3, .int (nI n1)), (2, .int (nI 0)), (0, .ref (ad i1)), (1, .int v)] dJ7_fill_53178_4 rfl (by decide) rfl ?_
  have Lp : ∀ (f k : Nat) (M3 : Mm), n1 + 1 ≤ k + f → k ≤ n1 → fiI i1 k v M M3 → VV l D cs ad 4 κ 0 M3 5 [(2, .int (nI k)), (0, .ref (ad i1)), (1, .int v), (3, .int (nI n1))] [] := by
    intro f
    induction f with
    | zero => intro k M3 hk1 hk2 hI; exact absurd hk1 (by omega)
    | succ f ih =>
      intro k M3 hk1 hk2 hI
      refine r_iload_n C dJ7_fill_53178_5 rfl 0 rfl ?_
      refine r_iload_n C dJ7_fill_53178_6 rfl 3 rfl ?_
      refine r_icmpN_ge C 20 dJ7_fill_53178_7 (by decide) (by omega) (by omega) (fun h7 => ?_) (fun h7 => ?_)
      ·
        have hk9 : n1 = k := by omega
        subst hk9
        exact E 0 _ _ _ (Nat.le_of_ble_eq_true rfl) dJ7_fill_53178_20 (hI)
      ·
        refine r_aload_n C dJ7_fill_53178_10 rfl 1 rfl ?_
        refine r_iload_n C dJ7_fill_53178_11 rfl 0 rfl ?_
        refine r_iload_n C dJ7_fill_53178_12 rfl 2 rfl ?_
        refine r_iast C (id := i1) (n := n1) (a := k) h1 (fun _ => (e1 _ _)) (by omega) (by assumption) dJ7_fill_53178_13 ?_
        refine r_iinc C (nI (k + 1)) [(2, .int (nI (k + 1))), (0, .ref (ad i1)), (1, .int v), (3, .int (nI n1))] dJ7_fill_53178_14 (j := 0) rfl (inc_n k 1) (by decide) rfl ?_
        refine r_goto C 5 dJ7_fill_53178_17 (by decide) ?_
        refine r_lv (lv2 := [(2, .int (nI (k + 1))), (0, .ref (ad i1)), (1, .int v), (3, .int (nI n1))]) [0, 1, 2, 3] rfl ?_
        exact ih (k + 1) _ (by omega) (by omega) (fi_s hI)
  refine r_lv (lv2 := [(2, .int (nI 0)), (0, .ref (ad i1)), (1, .int v), (3, .int (nI n1))]) [1, 2, 3, 0] rfl ?_
  exact Lp (n1 + 1) 0 _ (by omega) (by omega) ⟨o1.rf _ _, fun j hj => absurd hj (Nat.not_lt_zero j)⟩
set_option maxRecDepth 100000 in
set_option maxHeartbeats 4000000 in
theorem c_X4_connect (l : Launch) (D : va_G) (cs : Nat → ClassId) (ad : Nat → Nat) (M : Mm) (z : Nat → Int32) (n d : Nat) (hg : gv M 0 (gH 0) z n d) (hn8 : n ≤ 8) (a b : Nat) (i : Bool) (ha : a < n) (hb : b < n) (hab : a ≠ b) : ∀ sz : Nat, Met l yX4_connect (.code yX4_connect cX4_connect 4 none :: TT) { frames := 0, cells := 0, slots := 0, locals := 0 } (va_Pc [.ref (ad (gO 0)), .int (nI a), .int (nI b), .int (bI i)] (fun U9 => U9.heap.size = sz ∧ wB D cs ad (fA ad sz) M U9)) (va_Qv (fun M2 => oG 0 M M2 ∧ gv M2 0 (gH 0) (joR z a b i) n d) (wB D cs ad (fA ad sz)) (fA ad sz)) 0 0 (fA ad sz) := by
  refine st_V (by decide) (Nat.le_of_ble_eq_true rfl) (fun κ C E => ?_)
  refine r_lv (lv2 := [(0, .ref (ad (gO 0))), (1, .int (nI a)), (2, .int (nI b)), (3, .int (bI i))]) [0, 1, 2, 3] rfl ?_
  refine r_iload_n C dX4_connect_0 rfl 3 rfl ?_
  refine r_ifB_eq C 31 dX4_connect_1 (by decide) (fun h1 => ?_) (fun h1 => ?_)
  ·
    refine r_aload_n C dX4_connect_31 rfl 0 rfl ?_
    refine r_get C (Cn := RX4) (T := TX4) (N := 6) (id := (gO 0)) (by simp only [gO, gN, gW, gL, gR, gH] <;> omega) inw_X4 (wF_O cs ad (by decide) _ _) rfl 2 (by decide) rfl fl_X4_18 rfl dX4_connect_32 ?_
    refine r_iload_n C dX4_connect_35 rfl 1 rfl ?_
    refine r_dup2_11 C dX4_connect_36 rfl rfl ?_
    refine r_iald C (id := (gN 0)) (n := 8) (a := a) (by simp only [gO, gN, gW, gL, gR, gH] <;> omega) (wF_N cs ad (by decide) _ _) (by omega) (by decide) dX4_connect_37 ?_
    refine r_topi (w := (z (10 + a))) (hg.2.2.1 a (by omega)) ?_
    refine r_iconst C (nI 1) dX4_connect_38 (by decide) ?_
    refine r_iload_n C dX4_connect_39 rfl 2 rfl ?_
    refine r_ishl C dX4_connect_40 ?_
    refine r_topi (w := s1 b) rfl ?_
    refine r_iconst C ((-1)) dX4_connect_41 (by decide) ?_
    refine r_ixor C dX4_connect_42 ?_
    refine r_topi (w := ntI (s1 b)) rfl ?_
    refine r_iand C dX4_connect_43 ?_
    refine r_iast C (id := (gN 0)) (n := 8) (a := a) (by simp only [gO, gN, gW, gL, gR, gH] <;> omega) (fun _ => (wF_N cs ad (by decide) _ _)) (by omega) (by decide) dX4_connect_44 ?_
    refine r_aload_n C dX4_connect_45 rfl 0 rfl ?_
    refine r_get C (Cn := RX4) (T := TX4) (N := 6) (id := (gO 0)) (by simp only [gO, gN, gW, gL, gR, gH] <;> omega) inw_X4 (wF_O cs ad (by decide) _ _) rfl 2 (by decide) rfl fl_X4_18 rfl dX4_connect_46 ?_
    refine r_iload_n C dX4_connect_49 rfl 2 rfl ?_
    refine r_dup2_11 C dX4_connect_50 rfl rfl ?_
    refine r_iald C (id := (gN 0)) (n := 8) (a := b) (by simp only [gO, gN, gW, gL, gR, gH] <;> omega) (wF_N cs ad (by decide) _ _) (by omega) (by decide) dX4_connect_51 ?_
    refine r_topi (w := (z (10 + b))) (by rw [mI_eq, upd_n _ _ (Ne.symm hab)]; exact hg.2.2.1 b hb) ?_
    refine r_iconst C (nI 1) dX4_connect_52 (by decide) ?_
    refine r_iload_n C dX4_connect_53 rfl 1 rfl ?_
    refine r_ishl C dX4_connect_54 ?_
    refine r_topi (w := s1 a) rfl ?_
    refine r_iconst C ((-1)) dX4_connect_55 (by decide) ?_
    refine r_ixor C dX4_connect_56 ?_
    refine r_topi (w := ntI (s1 a)) rfl ?_
    refine r_iand C dX4_connect_57 ?_
    refine r_iast C (id := (gN 0)) (n := 8) (a := b) (by simp only [gO, gN, gW, gL, gR, gH] <;> omega) (fun _ => (wF_N cs ad (by decide) _ _)) (by omega) (by decide) dX4_connect_58 ?_
    exact E 0 _ _ _ (Nat.le_of_ble_eq_true rfl) dX4_connect_59 (⟨((oG.rf 0 M).I (by decide)).I (by decide), by rw [h1]; exact co_gv hg hn8 ha hb (an_jb _ _) (an_jb _ _)⟩)
  ·
    refine r_aload_n C dX4_connect_4 rfl 0 rfl ?_
    refine r_get C (Cn := RX4) (T := TX4) (N := 6) (id := (gO 0)) (by simp only [gO, gN, gW, gL, gR, gH] <;> omega) inw_X4 (wF_O cs ad (by decide) _ _) rfl 2 (by decide) rfl fl_X4_18 rfl dX4_connect_5 ?_
    refine r_iload_n C dX4_connect_8 rfl 1 rfl ?_
    refine r_dup2_11 C dX4_connect_9 rfl rfl ?_
    refine r_iald C (id := (gN 0)) (n := 8) (a := a) (by simp only [gO, gN, gW, gL, gR, gH] <;> omega) (wF_N cs ad (by decide) _ _) (by omega) (by decide) dX4_connect_10 ?_
    refine r_topi (w := (z (10 + a))) (hg.2.2.1 a (by omega)) ?_
    refine r_iconst C (nI 1) dX4_connect_11 (by decide) ?_
    refine r_iload_n C dX4_connect_12 rfl 2 rfl ?_
    refine r_ishl C dX4_connect_13 ?_
    refine r_topi (w := s1 b) rfl ?_
    refine r_ior C dX4_connect_14 ?_
    refine r_iast C (id := (gN 0)) (n := 8) (a := a) (by simp only [gO, gN, gW, gL, gR, gH] <;> omega) (fun _ => (wF_N cs ad (by decide) _ _)) (by omega) (by decide) dX4_connect_15 ?_
    refine r_aload_n C dX4_connect_16 rfl 0 rfl ?_
    refine r_get C (Cn := RX4) (T := TX4) (N := 6) (id := (gO 0)) (by simp only [gO, gN, gW, gL, gR, gH] <;> omega) inw_X4 (wF_O cs ad (by decide) _ _) rfl 2 (by decide) rfl fl_X4_18 rfl dX4_connect_17 ?_
    refine r_iload_n C dX4_connect_20 rfl 2 rfl ?_
    refine r_dup2_11 C dX4_connect_21 rfl rfl ?_
    refine r_iald C (id := (gN 0)) (n := 8) (a := b) (by simp only [gO, gN, gW, gL, gR, gH] <;> omega) (wF_N cs ad (by decide) _ _) (by omega) (by decide) dX4_connect_22 ?_
    refine r_topi (w := (z (10 + b))) (by rw [mI_eq, upd_n _ _ (Ne.symm hab)]; exact hg.2.2.1 b hb) ?_
    refine r_iconst C (nI 1) dX4_connect_23 (by decide) ?_
    refine r_iload_n C dX4_connect_24 rfl 1 rfl ?_
    refine r_ishl C dX4_connect_25 ?_
    refine r_topi (w := s1 a) rfl ?_
    refine r_ior C dX4_connect_26 ?_
    refine r_iast C (id := (gN 0)) (n := 8) (a := b) (by simp only [gO, gN, gW, gL, gR, gH] <;> omega) (fun _ => (wF_N cs ad (by decide) _ _)) (by omega) (by decide) dX4_connect_27 ?_
    refine r_goto C 59 dX4_connect_28 (by decide) ?_
    exact E 0 _ _ _ (Nat.le_of_ble_eq_true rfl) dX4_connect_59 (⟨((oG.rf 0 M).I (by decide)).I (by decide), by rw [h1]; exact co_gv hg hn8 ha hb (or_jb _ _) (or_jb _ _)⟩)
set_option maxRecDepth 100000 in
set_option maxHeartbeats 4000000 in
theorem c_X4_flipEdges (l : Launch) (D : va_G) (cs : Nat → ClassId) (ad : Nat → Nat) (M : Mm) (z : Nat → Int32) (n d : Nat) (hg : gv M 0 (gH 0) z n d) (hn8 : n ≤ 8) : ∀ sz : Nat, Met l yX4_flipEdges (.code yX4_flipEdges cX4_flipEdges 3 none :: TT) { frames := 0, cells := 0, slots := 0, locals := 0 } (va_Pc [.ref (ad (gO 0))] (fun U9 => U9.heap.size = sz ∧ wB D cs ad (fA ad sz) M U9)) (va_Qv (fun M2 => oG 0 M M2 ∧ gv M2 0 (gH 0) (cpl z n n) n d) (wB D cs ad (fA ad sz)) (fA ad sz)) 0 0 (fA ad sz) := by
  refine st_V (by decide) (Nat.le_of_ble_eq_true rfl) (fun κ C E => ?_)
  refine r_lv (lv2 := [(0, .ref (ad (gO 0)))]) [0] rfl ?_
  refine r_iconst C (nI 1) dX4_flipEdges_0 (by decide) ?_
  refine r_aload_n C dX4_flipEdges_1 rfl 0 rfl ?_
  refine r_get C (Cn := RX4) (T := TX4) (N := 6) (id := (gO 0)) (by simp only [gO, gN, gW, gL, gR, gH] <;> omega) inw_X4 (wF_O cs ad (by decide) _ _) rfl 0 (by decide) rfl fl_X4_9 rfl dX4_flipEdges_2 ?_
  refine r_topi (w := nI n) hg.1 ?_
  refine r_ishl C dX4_flipEdges_5 ?_
  refine r_topi (w := s1 n) rfl ?_
  refine r_iconst C (nI 1) dX4_flipEdges_6 (by decide) ?_
  refine r_isub C dX4_flipEdges_7 ?_
  refine r_istore_n C [(1, .int ((s1 n) - (nI 1))), (0, .ref (ad (gO 0)))] dX4_flipEdges_8 rfl (by decide) rfl ?_
  refine r_iconst C (nI 0) dX4_flipEdges_9 (by decide) ?_
  refine r_istore_n C [(2, .int (nI 0)), (1, .int ((s1 n) - (nI 1))), (0, .ref (ad (gO 0)))] dX4_flipEdges_10 rfl (by decide) rfl ?_
  have Lp : ∀ (f k : Nat) (M3 : Mm), n + 1 ≤ k + f → k ≤ n → flI M M3 z n k → VV l D cs ad 3 κ 0 M3 11 [(2, .int (nI k)), (0, .ref (ad (gO 0))), (1, .int ((s1 n) - (nI 1)))] [] := by
    intro f
    induction f with
    | zero => intro k M3 hk1 hk2 hI; exact absurd hk1 (by omega)
    | succ f ih =>
      intro k M3 hk1 hk2 hI
      refine r_iload_n C dX4_flipEdges_11 rfl 0 rfl ?_
      refine r_aload_n C dX4_flipEdges_12 rfl 1 rfl ?_
      refine r_get C (Cn := RX4) (T := TX4) (N := 6) (id := (gO 0)) (by simp only [gO, gN, gW, gL, gR, gH] <;> omega) inw_X4 (wF_O cs ad (by decide) _ _) rfl 0 (by decide) rfl fl_X4_9 rfl dX4_flipEdges_13 ?_
      refine r_topi (w := nI n) ((congrFun (hI.1.1 _ (by decide)) 0).trans hg.1) ?_
      refine r_icmpN_ge C 47 dX4_flipEdges_16 (by decide) (by omega) (by omega) (fun h16 => ?_) (fun h16 => ?_)
      ·
        have hk9 : n = k := by omega
        subst hk9
        exact E 0 _ _ _ (Nat.le_of_ble_eq_true rfl) dX4_flipEdges_47 (⟨hI.1.G (by decide), fl_e hg hn8 hI⟩)
      ·
        refine r_aload_n C dX4_flipEdges_19 rfl 1 rfl ?_
        refine r_get C (Cn := RX4) (T := TX4) (N := 6) (id := (gO 0)) (by simp only [gO, gN, gW, gL, gR, gH] <;> omega) inw_X4 (wF_O cs ad (by decide) _ _) rfl 2 (by decide) rfl fl_X4_18 rfl dX4_flipEdges_20 ?_
        refine r_iload_n C dX4_flipEdges_23 rfl 0 rfl ?_
        refine r_iload_n C dX4_flipEdges_24 rfl 2 rfl ?_
        refine r_aload_n C dX4_flipEdges_25 rfl 1 rfl ?_
        refine r_get C (Cn := RX4) (T := TX4) (N := 6) (id := (gO 0)) (by simp only [gO, gN, gW, gL, gR, gH] <;> omega) inw_X4 (wF_O cs ad (by decide) _ _) rfl 2 (by decide) rfl fl_X4_18 rfl dX4_flipEdges_26 ?_
        refine r_iload_n C dX4_flipEdges_29 rfl 0 rfl ?_
        refine r_iald C (id := (gN 0)) (n := 8) (a := k) (by simp only [gO, gN, gW, gL, gR, gH] <;> omega) (wF_N cs ad (by decide) _ _) (by omega) (by decide) dX4_flipEdges_30 ?_
        refine r_topi (w := (z (10 + k))) ((hI.2 k (by omega)).trans (if_neg (Nat.lt_irrefl _))) ?_
        refine r_iconst C ((-1)) dX4_flipEdges_31 (by decide) ?_
        refine r_ixor C dX4_flipEdges_32 ?_
        refine r_topi (w := ntI (z (10 + k))) rfl ?_
        refine r_iand C dX4_flipEdges_33 ?_
        refine r_iconst C (nI 1) dX4_flipEdges_34 (by decide) ?_
        refine r_iload_n C dX4_flipEdges_35 rfl 0 rfl ?_
        refine r_ishl C dX4_flipEdges_36 ?_
        refine r_topi (w := s1 k) rfl ?_
        refine r_iconst C ((-1)) dX4_flipEdges_37 (by decide) ?_
        refine r_ixor C dX4_flipEdges_38 ?_
        refine r_topi (w := ntI (s1 k)) rfl ?_
        refine r_iand C dX4_flipEdges_39 ?_
        refine r_iast C (id := (gN 0)) (n := 8) (a := k) (by simp only [gO, gN, gW, gL, gR, gH] <;> omega) (fun _ => (wF_N cs ad (by decide) _ _)) (by omega) (by decide) dX4_flipEdges_40 ?_
        refine r_iinc C (nI (k + 1)) [(2, .int (nI (k + 1))), (0, .ref (ad (gO 0))), (1, .int ((s1 n) - (nI 1)))] dX4_flipEdges_41 (j := 0) rfl (inc_n k 1) (by decide) rfl ?_
        refine r_goto C 11 dX4_flipEdges_44 (by decide) ?_
        refine r_lv (lv2 := [(2, .int (nI (k + 1))), (0, .ref (ad (gO 0))), (1, .int ((s1 n) - (nI 1)))]) [0, 1, 2] rfl ?_
        exact ih (k + 1) _ (by omega) (by omega) (fl_s hI)
  refine r_lv (lv2 := [(2, .int (nI 0)), (0, .ref (ad (gO 0))), (1, .int ((s1 n) - (nI 1)))]) [0, 2, 1] rfl ?_
  exact Lp (n + 1) 0 _ (by omega) (by omega) ⟨o1.rf _ _, fun v hv => by rw [if_neg (Nat.not_lt_zero v)]; exact hg.2.2.1 v hv⟩
