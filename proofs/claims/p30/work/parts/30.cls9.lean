/-! ===== the class: bounds (written by wip/whole/gen/cls9.py) ===== -/
/-- nothing but the thing b has changed, longs too -/
def oB (b : Nat) (M M2 : Mm) : Prop := (∀ j, j ≠ b → M2.1 j = M.1 j) ∧ ∀ j, j ≠ b → M2.2 j = M.2 j
theorem oB.rf (b : Nat) (M : Mm) : oB b M M := ⟨fun _ _ => rfl, fun _ _ => rfl⟩
theorem oB.tr {b : Nat} {M M2 M3 : Mm} (h : oB b M M2) (h2 : oB b M2 M3) : oB b M M3 := ⟨fun j hj => (h2.1 j hj).trans (h.1 j hj), fun j hj => (h2.2 j hj).trans (h.2 j hj)⟩
theorem oB.I {b : Nat} {M M3 : Mm} (h : oB b M M3) {k : Nat} {x : Int32} : oB b M (mI M3 b k x) := ⟨fun j hj => (mI_ne M3 hj).trans (h.1 j hj), fun j hj => h.2 j hj⟩
theorem oB.J {b : Nat} {M M3 : Mm} (h : oB b M M3) {k : Nat} {x : Int64} : oB b M (mJ M3 b k x) := ⟨fun j hj => h.1 j hj, fun j hj => (mJ_ne M3 hj).trans (h.2 j hj)⟩
/-- the bound b is told: above, below, its vertex and 1 (0: none) -/
def bdV (M : Mm) (b : Nat) (q : Nat × Nat × Nat) : Prop := M.1 b 0 = bI true ∧ M.2 b 1 = lN q.1 ∧ M.2 b 2 = lN q.2.1 ∧ M.1 b 3 = tel q.2.2
def bdN (M : Mm) (b : Nat) : Prop := M.1 b 0 = bI false ∧ M.2 b 1 = -1 ∧ M.2 b 2 = -1 ∧ M.1 b 3 = -1
theorem bI_fit (b : Bool) : fits .boolean (.int (bI b)) = true := by cases b <;> rfl
theorem vL_e (f : Nat → Int64) (k : Nat) (v : Int64) : vp_updL f k v k = v := if_pos rfl
theorem vL_n (f : Nat → Int64) {k j : Nat} (v : Int64) (h : j ≠ k) : vp_updL f k v j = f j := if_neg h
theorem bd_set {M : Mm} {b : Nat} {e t : Int32} {x y : Int64} : (mI (mJ (mJ (mI M b 0 e) b 1 x) b 2 y) b 3 t).1 b 0 = e ∧ (mI (mJ (mJ (mI M b 0 e) b 1 x) b 2 y) b 3 t).2 b 1 = x ∧ (mI (mJ (mJ (mI M b 0 e) b 1 x) b 2 y) b 3 t).2 b 2 = y ∧ (mI (mJ (mJ (mI M b 0 e) b 1 x) b 2 y) b 3 t).1 b 3 = t := by
  refine ⟨?_, ?_, ?_, ?_⟩
  · rw [mI_eq, upd_n _ _ (by decide), mJ_1, mJ_1, mI_eq, upd_e]
  · rw [mI_2, mJ_eq, vL_n _ _ (by decide), mJ_eq, vL_e]
  · rw [mI_2, mJ_eq, vL_e]
  · rw [mI_eq, upd_e]
/-- a fraction raised by another -/
def rsS (q : Nat × Nat × Nat) (t b v : Nat) : Nat × Nat × Nat := if q.1 * b < t * q.2.1 then (t, b, v + 1) else q
/-- the greatest fraction as the class finds it -/
def bcS (wt U S : Nat → Nat) (H : Nat) : Nat → Nat × Nat × Nat
  | 0 => (0, 1, 0)
  | v + 1 => if 0 < wt v then rsS (bcS wt U S H v) (wt v * H * U v) (S v) v else bcS wt U S H v
theorem bcS_le {z : Nat → Int32} {n : Nat} {wt U S : Nat → Nat} {H : Nat} (h : bnH z n wt U S H) : ∀ k, k ≤ n → (bcS wt U S H k).1 ≤ 1440000 ∧ 0 < (bcS wt U S H k).2.1 ∧ (bcS wt U S H k).2.1 ≤ 200000 ∧ (bcS wt U S H k).2.2 ≤ k
  | 0, _ => show (0 : Nat) ≤ 1440000 ∧ 0 < 1 ∧ 1 ≤ 200000 ∧ 0 ≤ 0 from by decide
  | k + 1, hk => by
    have ih := bcS_le h k (by omega)
    unfold bcS
    split
    · rename_i q
      unfold rsS
      split
      · have a1 := (h.1 k (by omega)).2
        have a2 := (h.2.1 k (by omega)).2
        have a3 := (h.2.2.1 k (by omega)).2
        have a4 := h.2.2.2.2.1
        have a5 := h.2.2.2.2.2 k (by omega) q
        have m1 : wt k * H ≤ 9 * 400 := Nat.mul_le_mul a1 a4
        have m2 : wt k * H * U k ≤ 9 * 400 * 400 := Nat.mul_le_mul m1 a2
        exact ⟨by omega, a5, a3, Nat.le_refl _⟩
      · exact ⟨ih.1, ih.2.1, ih.2.2.1, by omega⟩
    · exact ⟨ih.1, ih.2.1, ih.2.2.1, by omega⟩
theorem mul_b {a b x y : Nat} (h1 : a ≤ x) (h2 : b ≤ y) (h3 : x * y < 2 ^ 62) : a * b < 2 ^ 62 := Nat.lt_of_le_of_lt (Nat.mul_le_mul h1 h2) h3
/-- Euclid's steps -/
def eu (a b : Nat) : Nat → Nat × Nat
  | 0 => (a, b)
  | k + 1 => if (eu a b k).2 = 0 then eu a b k else ((eu a b k).2, (eu a b k).1 % (eu a b k).2)
theorem eu_s {a b k : Nat} (h : (eu a b k).2 ≠ 0) : eu a b (k + 1) = ((eu a b k).2, (eu a b k).1 % (eu a b k).2) := if_neg h
theorem eu_g {a b : Nat} : ∀ {k : Nat}, Nat.gcd (eu a b k).1 (eu a b k).2 = Nat.gcd a b
  | 0 => rfl
  | k + 1 => by
    unfold eu; split
    · exact eu_g
    · rw [← eu_g (a := a) (b := b) (k := k)]
      show Nat.gcd (eu a b k).2 ((eu a b k).1 % (eu a b k).2) = _
      rw [Nat.gcd_comm (eu a b k).1 (eu a b k).2, Nat.gcd_rec (eu a b k).2 (eu a b k).1, Nat.gcd_comm]
theorem eu_0 {a b k : Nat} (h : (eu a b k).2 = 0) : (eu a b (k + 1)).2 = 0 := by
  unfold eu; rw [if_pos h]; exact h
theorem eu_2 {a b k : Nat} : (eu a b (k + 2)).2 * 2 ≤ (eu a b k).2 := by
  by_cases h0 : (eu a b k).2 = 0
  · rw [eu_0 (eu_0 h0)]; omega
  · have e1 := eu_s h0
    by_cases h1 : (eu a b (k + 1)).2 = 0
    · rw [eu_0 h1]; omega
    · rw [eu_s h1]
      rw [e1] at h1 ⊢
      dsimp only at h1 ⊢
      have hx : (eu a b k).1 % (eu a b k).2 < (eu a b k).2 := Nat.mod_lt _ (by omega)
      have hy : (eu a b k).2 % ((eu a b k).1 % (eu a b k).2) < (eu a b k).1 % (eu a b k).2 := Nat.mod_lt _ (by omega)
      generalize (eu a b k).1 % (eu a b k).2 = x at *
      generalize (eu a b k).2 = r at *
      have h5 := Nat.div_add_mod r x
      have h6 : x * 1 ≤ x * (r / x) := Nat.mul_le_mul_left x ((Nat.one_le_div_iff (by omega)).mpr (by omega))
      omega
theorem eu_h {a b : Nat} : ∀ {k : Nat}, (eu a b (2 * k)).2 * 2 ^ k ≤ b
  | 0 => by show b * 1 ≤ b; omega
  | k + 1 => by
    have h1 := eu_h (a := a) (b := b) (k := k)
    have h2 := eu_2 (a := a) (b := b) (k := 2 * k)
    rw [show 2 * (k + 1) = 2 * k + 2 by omega, Nat.pow_succ, Nat.mul_comm (2 ^ k) 2, ← Nat.mul_assoc]
    exact Nat.le_trans (Nat.mul_le_mul_right _ h2) h1
theorem eu_e {a b : Nat} (hb : b < 2 ^ 50) : (eu a b 100).2 = 0 := by
  have h := eu_h (a := a) (b := b) (k := 50)
  rw [show 2 * 50 = 100 by decide] at h
  rcases Nat.eq_zero_or_pos (eu a b 100).2 with q | q
  · exact q
  · have : 1 * 2 ^ 50 ≤ (eu a b 100).2 * 2 ^ 50 := Nat.mul_le_mul_right _ q
    omega
theorem eu_le {a b x : Nat} (ha : a ≤ x) (hb : b ≤ x) : ∀ {k : Nat}, (eu a b k).1 ≤ x ∧ (eu a b k).2 ≤ x
  | 0 => ⟨ha, hb⟩
  | k + 1 => by
    have ih := eu_le ha hb (k := k)
    unfold eu; split
    · exact ih
    · exact ⟨ih.2, Nat.le_trans (Nat.mod_le _ _) ih.1⟩
def rdQ (q : Nat × Nat × Nat) : Nat × Nat × Nat := (q.1 / Nat.gcd q.1 q.2.1, q.2.1 / Nat.gcd q.1 q.2.1, q.2.2)
set_option maxRecDepth 100000 in
set_option maxHeartbeats 4000000 in
theorem c_X0_tellNone (l : Launch) (D : va_G) (cs : Nat → ClassId) (ad : Nat → Nat) (M : Mm) (b : Nat) (hb : b < 140) (hbe : ∀ x y, wF cs ad b x y = .inr (0, [.int (x 0), .long (y 1), .long (y 2), .int (x 3)])) : ∀ sz : Nat, Met l yX0_tellNone (.code yX0_tellNone cX0_tellNone 1 none :: TT) { frames := 0, cells := 0, slots := 0, locals := 0 } (va_Pc [.ref (ad b)] (fun U9 => U9.heap.size = sz ∧ wB D cs ad (fA ad sz) M U9)) (va_Qv (fun M2 => oB b M M2 ∧ bdN M2 b) (wB D cs ad (fA ad sz)) (fA ad sz)) 0 0 (fA ad sz) := by
  refine st_V (by decide) (Nat.le_of_ble_eq_true rfl) (fun κ C E => ?_)
  refine r_lv (lv2 := [(0, .ref (ad b))]) [0] rfl ?_
  refine r_aload_n C dX0_tellNone_0 rfl 0 rfl ?_
  refine r_iconst C (nI 0) dX0_tellNone_1 (by decide) ?_
  refine r_put C (M2 := (mI M b 0 (nI 0))) (Cn := RX0) (T := TX0) (N := 4) (id := b) hb inw_X0 tyX0_ok nmX0 (hbe _ _) rfl 0 (by decide) rfl fl_X0_9 rfl rfl (by decide) (Nat.le_of_ble_eq_true rfl) (fun j hj => ⟨mI_ne _ hj, rfl⟩) (by rw [mI_eq, mI_2, hbe]; rfl) dX0_tellNone_2 ?_
  refine r_aload_n C dX0_tellNone_5 rfl 0 rfl ?_
  refine r_ldc2 C (-1) k_X0_15 dX0_tellNone_6 ?_
  refine r_put C (M2 := (mJ (mI M b 0 (nI 0)) b 1 (-1))) (Cn := RX0) (T := TX0) (N := 4) (id := b) hb inw_X0 tyX0_ok nmX0 (hbe _ _) rfl 1 (by decide) rfl fl_X0_17 rfl rfl (rfl) (Nat.le_of_ble_eq_true rfl) (fun j hj => ⟨rfl, mJ_ne _ hj⟩) (by rw [mJ_1, mJ_eq, hbe]; rfl) dX0_tellNone_9 ?_
  refine r_aload_n C dX0_tellNone_12 rfl 0 rfl ?_
  refine r_ldc2 C (-1) k_X0_15 dX0_tellNone_13 ?_
  refine r_put C (M2 := (mJ (mJ (mI M b 0 (nI 0)) b 1 (-1)) b 2 (-1))) (Cn := RX0) (T := TX0) (N := 4) (id := b) hb inw_X0 tyX0_ok nmX0 (hbe _ _) rfl 2 (by decide) rfl fl_X0_21 rfl rfl (rfl) (Nat.le_of_ble_eq_true rfl) (fun j hj => ⟨rfl, mJ_ne _ hj⟩) (by rw [mJ_1, mJ_eq, hbe]; rfl) dX0_tellNone_16 ?_
  refine r_aload_n C dX0_tellNone_19 rfl 0 rfl ?_
  refine r_iconst C ((-1)) dX0_tellNone_20 (by decide) ?_
  refine r_put C (M2 := (mI (mJ (mJ (mI M b 0 (nI 0)) b 1 (-1)) b 2 (-1)) b 3 (-1))) (Cn := RX0) (T := TX0) (N := 4) (id := b) hb inw_X0 tyX0_ok nmX0 (hbe _ _) rfl 3 (by decide) rfl fl_X0_24 rfl rfl (rfl) (Nat.le_of_ble_eq_true rfl) (fun j hj => ⟨mI_ne _ hj, rfl⟩) (by rw [mI_eq, mI_2, hbe]; rfl) dX0_tellNone_21 ?_
  exact E 0 _ _ _ (Nat.le_of_ble_eq_true rfl) dX0_tellNone_24 (⟨(((((oB.rf b M).I).J).J).I), bd_set⟩)
set_option maxRecDepth 100000 in
set_option maxHeartbeats 4000000 in
theorem c_X0_raise (l : Launch) (D : va_G) (cs : Nat → ClassId) (ad : Nat → Nat) (M : Mm) (b : Nat) (hb : b < 140) (hbe : ∀ x y, wF cs ad b x y = .inr (0, [.int (x 0), .long (y 1), .long (y 2), .int (x 3)])) (q : Nat × Nat × Nat) (hq : bdV M b q) (t c v : Nat) (h1 : q.1 * c < 2 ^ 62) (h2 : t * q.2.1 < 2 ^ 62) : ∀ sz : Nat, Met l yX0_raise (.code yX0_raise cX0_raise 6 none :: TT) { frames := 0, cells := 0, slots := 0, locals := 0 } (va_Pc [.ref (ad b), .long (lN t), .long (lN c), .int (nI v)] (fun U9 => U9.heap.size = sz ∧ wB D cs ad (fA ad sz) M U9)) (va_Qv (fun M2 => oB b M M2 ∧ bdV M2 b (rsS q t c v)) (wB D cs ad (fA ad sz)) (fA ad sz)) 0 0 (fA ad sz) := by
  refine st_V (by decide) (Nat.le_of_ble_eq_true rfl) (fun κ C E => ?_)
  refine r_lv (lv2 := [(0, .ref (ad b)), (1, .long (lN t)), (3, .long (lN c)), (5, .int (nI v))]) [0, 1, 2, 3] rfl ?_
  refine r_lload_n C dX0_raise_0 rfl 1 rfl ?_
  refine r_aload_n C dX0_raise_1 rfl 0 rfl ?_
  refine r_get C (Cn := RX0) (T := TX0) (N := 4) (id := b) hb inw_X0 (hbe _ _) rfl 2 (by decide) rfl fl_X0_21 rfl dX0_raise_2 ?_
  refine r_topl (w := lN q.2.1) hq.2.2.1 ?_
  refine r_lmul C dX0_raise_5 ?_
  refine r_topl (w := lN (t * q.2.1)) (lN_mul _ _) ?_
  refine r_aload_n C dX0_raise_6 rfl 0 rfl ?_
  refine r_get C (Cn := RX0) (T := TX0) (N := 4) (id := b) hb inw_X0 (hbe _ _) rfl 1 (by decide) rfl fl_X0_17 rfl dX0_raise_7 ?_
  refine r_topl (w := lN q.1) hq.2.1 ?_
  refine r_lload_n C dX0_raise_10 rfl 2 rfl ?_
  refine r_lmul C dX0_raise_11 ?_
  refine r_topl (w := lN (q.1 * c)) (lN_mul _ _) ?_
  refine r_lcmp C dX0_raise_12 ?_
  refine r_if_le C 32 dX0_raise_13 (by decide) (fun h13 => ?_) (fun h13 => ?_)
  ·
    rw [lgcN_le (by omega) (by omega)] at h13
    exact E 0 _ _ _ (Nat.le_of_ble_eq_true rfl) dX0_raise_32 (⟨oB.rf b M, by unfold rsS; rw [if_neg (by omega)]; exact hq⟩)
  ·
    rw [lgcN_le (by omega) (by omega)] at h13
    refine r_aload_n C dX0_raise_16 rfl 0 rfl ?_
    refine r_lload_n C dX0_raise_17 rfl 1 rfl ?_
    refine r_put C (M2 := (mJ M b 1 (lN t))) (Cn := RX0) (T := TX0) (N := 4) (id := b) hb inw_X0 tyX0_ok nmX0 (hbe _ _) rfl 1 (by decide) rfl fl_X0_17 rfl rfl (rfl) (Nat.le_of_ble_eq_true rfl) (fun j hj => ⟨rfl, mJ_ne _ hj⟩) (by rw [mJ_1, mJ_eq, hbe]; rfl) dX0_raise_18 ?_
    refine r_aload_n C dX0_raise_21 rfl 0 rfl ?_
    refine r_lload_n C dX0_raise_22 rfl 2 rfl ?_
    refine r_put C (M2 := (mJ (mJ M b 1 (lN t)) b 2 (lN c))) (Cn := RX0) (T := TX0) (N := 4) (id := b) hb inw_X0 tyX0_ok nmX0 (hbe _ _) rfl 2 (by decide) rfl fl_X0_21 rfl rfl (rfl) (Nat.le_of_ble_eq_true rfl) (fun j hj => ⟨rfl, mJ_ne _ hj⟩) (by rw [mJ_1, mJ_eq, hbe]; rfl) dX0_raise_23 ?_
    refine r_aload_n C dX0_raise_26 rfl 0 rfl ?_
    refine r_iload C dX0_raise_27 3 rfl ?_
    refine r_put C (M2 := (mI (mJ (mJ M b 1 (lN t)) b 2 (lN c)) b 3 (nI v))) (Cn := RX0) (T := TX0) (N := 4) (id := b) hb inw_X0 tyX0_ok nmX0 (hbe _ _) rfl 3 (by decide) rfl fl_X0_24 rfl rfl (rfl) (Nat.le_of_ble_eq_true rfl) (fun j hj => ⟨mI_ne _ hj, rfl⟩) (by rw [mI_eq, mI_2, hbe]; rfl) dX0_raise_29 ?_
    exact E 0 _ _ _ (Nat.le_of_ble_eq_true rfl) dX0_raise_32 (⟨(((oB.rf b M).J).J).I, by unfold rsS; rw [if_pos (by omega)]; exact ⟨by rw [mI_eq, upd_n _ _ (by decide), mJ_1, mJ_1]; exact hq.1, by rw [mI_2, mJ_eq, vL_n _ _ (by decide), mJ_eq, vL_e], by rw [mI_2, mJ_eq, vL_e], by rw [mI_eq, upd_e]; exact tel_s v⟩⟩)
set_option maxRecDepth 100000 in
set_option maxHeartbeats 4000000 in
theorem c_X0_partOf (l : Launch) (D : va_G) (cs : Nat → ClassId) (ad : Nat → Nat) (M : Mm) (b : Nat) (hb : b < 140) (hbe : ∀ x y, wF cs ad b x y = .inr (0, [.int (x 0), .long (y 1), .long (y 2), .int (x 3)])) (p : Nat) (hp : p ≤ 2) (x y : Int64) (t : Int32) (hp1 : M.2 b 1 = x) (hp2 : M.2 b 2 = y) (hp3 : M.1 b 3 = t) : ∀ sz : Nat, Met l yX0_partOf (.code yX0_partOf cX0_partOf 2 (some .long) :: TT) { frames := 0, cells := 0, slots := 0, locals := 0 } (va_Pc [.ref (ad b), .int (nI p)] (fun U9 => U9.heap.size = sz ∧ wB D cs ad (fA ad sz) M U9)) (va_Ql (fun r M2 => r = (if p = 0 then x else if p = 1 then y else t.toInt64) ∧ M2 = M) (wB D cs ad (fA ad sz)) (fA ad sz)) 0 0 (fA ad sz) := by
  refine st_L (by decide) (Nat.le_of_ble_eq_true rfl) (fun κ C E => ?_)
  refine r_lv (lv2 := [(0, .ref (ad b)), (1, .int (nI p))]) [0, 1] rfl ?_
  refine r_iload_n C dX0_partOf_0 rfl 1 rfl ?_
  refine r_ifN_ne C 11 dX0_partOf_1 (by decide) (by omega) (fun h1 => ?_) (fun h1 => ?_)
  ·
    refine r_iload_n C dX0_partOf_11 rfl 1 rfl ?_
    refine r_iconst C (nI 1) dX0_partOf_12 (by decide) ?_
    refine r_icmpN_ne C 23 dX0_partOf_13 (by decide) (by omega) (by omega) (fun h13 => ?_) (fun h13 => ?_)
    ·
      refine r_aload_n C dX0_partOf_23 rfl 0 rfl ?_
      refine r_get C (Cn := RX0) (T := TX0) (N := 4) (id := b) hb inw_X0 (hbe _ _) rfl 3 (by decide) rfl fl_X0_24 rfl dX0_partOf_24 ?_
      refine r_topi (w := t) hp3 ?_
      refine r_i2l C dX0_partOf_27 ?_
      exact E 0 _ _ _ _ (Nat.le_of_ble_eq_true rfl) dX0_partOf_28 (⟨by rw [if_neg (by omega), if_neg (by omega)], rfl⟩)
    ·
      refine r_aload_n C dX0_partOf_16 rfl 0 rfl ?_
      refine r_get C (Cn := RX0) (T := TX0) (N := 4) (id := b) hb inw_X0 (hbe _ _) rfl 2 (by decide) rfl fl_X0_21 rfl dX0_partOf_17 ?_
      refine r_topl (w := y) hp2 ?_
      refine r_goto C 28 dX0_partOf_20 (by decide) ?_
      exact E 0 _ _ _ _ (Nat.le_of_ble_eq_true rfl) dX0_partOf_28 (⟨by rw [if_neg (by omega), if_pos (by omega)], rfl⟩)
  ·
    refine r_aload_n C dX0_partOf_4 rfl 0 rfl ?_
    refine r_get C (Cn := RX0) (T := TX0) (N := 4) (id := b) hb inw_X0 (hbe _ _) rfl 1 (by decide) rfl fl_X0_17 rfl dX0_partOf_5 ?_
    refine r_topl (w := x) hp1 ?_
    refine r_goto C 28 dX0_partOf_8 (by decide) ?_
    exact E 0 _ _ _ _ (Nat.le_of_ble_eq_true rfl) dX0_partOf_28 (⟨by rw [if_pos (by omega)], rfl⟩)
theorem bd_cp {M : Mm} {b b2 : Nat} (hne : b2 ≠ b) : ∀ {e t : Int32} {x y : Int64}, M.1 b2 0 = e → M.2 b2 1 = x → M.2 b2 2 = y → M.1 b2 3 = t → oB b M (mI (mJ (mJ (mI M b 0 e) b 1 x) b 2 y) b 3 t) := fun _ _ _ _ => ((((oB.rf b M).I).J).J).I
theorem nd_le {a b : Nat} : a / b ≤ a := Nat.div_le_self a b
theorem rd_1 {a b x : Nat} (hb : 0 < b) (hx : x = Nat.gcd a b) (h : x ≤ 1) : (a / Nat.gcd a b, b / Nat.gcd a b) = (a, b) := by
  have : 0 < Nat.gcd a b := Nat.gcd_pos_of_pos_right _ hb
  rw [show Nat.gcd a b = 1 by omega, Nat.div_one, Nat.div_one]
set_option maxRecDepth 100000 in
set_option maxHeartbeats 4000000 in
theorem c_X0_reduceN (l : Launch) (D : va_G) (cs : Nat → ClassId) (ad : Nat → Nat) (M : Mm) (b : Nat) (hb : b < 140) (hbe : ∀ x y, wF cs ad b x y = .inr (0, [.int (x 0), .long (y 1), .long (y 2), .int (x 3)])) (hq : M.1 b 0 = bI false) : ∀ sz : Nat, Met l yX0_reduce (.code yX0_reduce cX0_reduce 8 none :: TT) { frames := 0, cells := 0, slots := 0, locals := 0 } (va_Pc [.ref (ad b)] (fun U9 => U9.heap.size = sz ∧ wB D cs ad (fA ad sz) M U9)) (va_Qv (fun M2 => M2 = M) (wB D cs ad (fA ad sz)) (fA ad sz)) 0 0 (fA ad sz) := by
  refine st_V (by decide) (Nat.le_of_ble_eq_true rfl) (fun κ C E => ?_)
  refine r_lv (lv2 := [(0, .ref (ad b))]) [0] rfl ?_
  refine r_aload_n C dX0_reduce_0 rfl 0 rfl ?_
  refine r_get C (Cn := RX0) (T := TX0) (N := 4) (id := b) hb inw_X0 (hbe _ _) rfl 0 (by decide) rfl fl_X0_9 rfl dX0_reduce_1 ?_
  refine r_topi (w := bI false) hq ?_
  refine r_ifB_ne C 8 dX0_reduce_4 (by decide) (fun h4 => ?_) (fun h4 => ?_)
  · exact absurd (h4.symm.trans (rfl : false = false)) (by decide)
  ·
    exact E 0 _ _ _ (Nat.le_of_ble_eq_true rfl) dX0_reduce_7 (rfl)
set_option maxRecDepth 100000 in
set_option maxHeartbeats 4000000 in
theorem c_X0_reduce (l : Launch) (D : va_G) (cs : Nat → ClassId) (ad : Nat → Nat) (M : Mm) (b : Nat) (hb : b < 140) (hbe : ∀ x y, wF cs ad b x y = .inr (0, [.int (x 0), .long (y 1), .long (y 2), .int (x 3)])) (q : Nat × Nat × Nat) (hq : bdV M b q) (ha : q.1 < 2 ^ 40) (hb0 : 0 < q.2.1) (hb9 : q.2.1 < 2 ^ 40) : ∀ sz : Nat, Met l yX0_reduce (.code yX0_reduce cX0_reduce 8 none :: TT) { frames := 0, cells := 0, slots := 0, locals := 0 } (va_Pc [.ref (ad b)] (fun U9 => U9.heap.size = sz ∧ wB D cs ad (fA ad sz) M U9)) (va_Qv (fun M2 => oB b M M2 ∧ bdV M2 b (rdQ q)) (wB D cs ad (fA ad sz)) (fA ad sz)) 0 0 (fA ad sz) := by
  refine st_V (by decide) (Nat.le_of_ble_eq_true rfl) (fun κ C E => ?_)
  refine r_lv (lv2 := [(0, .ref (ad b))]) [0] rfl ?_
  refine r_aload_n C dX0_reduce_0 rfl 0 rfl ?_
  refine r_get C (Cn := RX0) (T := TX0) (N := 4) (id := b) hb inw_X0 (hbe _ _) rfl 0 (by decide) rfl fl_X0_9 rfl dX0_reduce_1 ?_
  refine r_topi (w := bI true) hq.1 ?_
  refine r_ifB_ne C 8 dX0_reduce_4 (by decide) (fun h4 => ?_) (fun h4 => ?_)
  ·
    refine r_aload_n C dX0_reduce_8 rfl 0 rfl ?_
    refine r_get C (Cn := RX0) (T := TX0) (N := 4) (id := b) hb inw_X0 (hbe _ _) rfl 1 (by decide) rfl fl_X0_17 rfl dX0_reduce_9 ?_
    refine r_topl (w := lN q.1) hq.2.1 ?_
    refine r_lstore_n C [(1, .long (lN q.1)), (0, .ref (ad b))] dX0_reduce_12 rfl (by decide) rfl ?_
    refine r_aload_n C dX0_reduce_13 rfl 1 rfl ?_
    refine r_get C (Cn := RX0) (T := TX0) (N := 4) (id := b) hb inw_X0 (hbe _ _) rfl 2 (by decide) rfl fl_X0_21 rfl dX0_reduce_14 ?_
    refine r_topl (w := lN q.2.1) hq.2.2.1 ?_
    refine r_lstore_n C [(3, .long (lN q.2.1)), (1, .long (lN q.1)), (0, .ref (ad b))] dX0_reduce_17 rfl (by decide) rfl ?_
    refine r_iconst C (nI 0) dX0_reduce_18 (by decide) ?_
    refine r_istore C [(5, .int (nI 0)), (3, .long (lN q.2.1)), (1, .long (lN q.1)), (0, .ref (ad b))] dX0_reduce_19 (by decide) rfl ?_
    have Lp : ∀ (f k : Nat), 101 + 1 ≤ k + f → k ≤ 101 → k ≤ 100 → VV l D cs ad 8 κ 0 M 21 [(5, .int (nI k)), (1, .long (lN ((eu q.1 q.2.1 k).1))), (3, .long (lN ((eu q.1 q.2.1 k).2))), (0, .ref (ad b))] [] := by
      intro f
      induction f with
      | zero => intro k hk1 hk2 hI; exact absurd hk1 (by omega)
      | succ f ih =>
        intro k hk1 hk2 hI
        have hel := eu_le (Nat.le_of_lt ha) (Nat.le_of_lt hb9) (k := k)
        refine r_iload C dX0_reduce_21 0 rfl ?_
        refine r_bipush C (nI 100) dX0_reduce_23 (by decide) ?_
        refine r_icmpN_ge C 50 dX0_reduce_25 (by decide) (by omega) (by omega) (fun h25 => ?_) (fun h25 => ?_)
        ·
          have hz : (eu q.1 q.2.1 k).2 = 0 := (show k = 100 by omega) ▸ eu_e (by omega)
          have hgc : (eu q.1 q.2.1 k).1 = Nat.gcd q.1 q.2.1 := by have h9 := eu_g (a := q.1) (b := q.2.1) (k := k); rw [hz, Nat.gcd_zero_right] at h9; exact h9
          have hgp : 0 < Nat.gcd q.1 q.2.1 := Nat.gcd_pos_of_pos_right _ hb0
          rw [hgc]
          have hgl : Nat.gcd q.1 q.2.1 ≤ q.2.1 := Nat.le_of_dvd hb0 (Nat.gcd_dvd_right _ _)
          refine r_lload_n C dX0_reduce_50 rfl 1 rfl ?_
          refine r_lconst C (lN 1) dX0_reduce_51 rfl ?_
          refine r_lcmp C dX0_reduce_52 ?_
          refine r_if_le C 76 dX0_reduce_53 (by decide) (fun h53 => ?_) (fun h53 => ?_)
          ·
            rw [lgcN_le (by omega) (by omega)] at h53
            exact E 0 _ _ _ (Nat.le_of_ble_eq_true rfl) dX0_reduce_76 (⟨oB.rf b M, hq.1, by rw [hq.2.1]; exact congrArg lN (congrArg Prod.fst (rd_1 hb0 rfl (by omega))).symm, by rw [hq.2.2.1]; exact congrArg lN (congrArg Prod.snd (rd_1 hb0 rfl (by omega))).symm, hq.2.2.2⟩)
          ·
            rw [lgcN_le (by omega) (by omega)] at h53
            refine r_aload_n C dX0_reduce_56 rfl 3 rfl ?_
            refine r_dup C dX0_reduce_57 rfl ?_
            refine r_get C (Cn := RX0) (T := TX0) (N := 4) (id := b) hb inw_X0 (hbe _ _) rfl 1 (by decide) rfl fl_X0_17 rfl dX0_reduce_58 ?_
            refine r_topl (w := lN q.1) hq.2.1 ?_
            refine r_lload_n C dX0_reduce_61 rfl 1 rfl ?_
            refine r_ldiv C dX0_reduce_62 (by intro h9; have h8 := (lgcN_eq (a := Nat.gcd q.1 q.2.1) (b := 0) (by omega) (by decide)); rw [lgc_eq] at h8; have := h8.mp h9; omega) ?_
            refine r_topl (w := lN (q.1 / (Nat.gcd q.1 q.2.1))) (pk_lDiv (by omega) (by omega) (by omega)) ?_
            refine r_put C (M2 := (mJ M b 1 (lN (q.1 / (Nat.gcd q.1 q.2.1))))) (Cn := RX0) (T := TX0) (N := 4) (id := b) hb inw_X0 tyX0_ok nmX0 (hbe _ _) rfl 1 (by decide) rfl fl_X0_17 rfl rfl (rfl) (Nat.le_of_ble_eq_true rfl) (fun j hj => ⟨rfl, mJ_ne _ hj⟩) (by rw [mJ_1, mJ_eq, hbe]; rfl) dX0_reduce_63 ?_
            refine r_aload_n C dX0_reduce_66 rfl 3 rfl ?_
            refine r_dup C dX0_reduce_67 rfl ?_
            refine r_get C (Cn := RX0) (T := TX0) (N := 4) (id := b) hb inw_X0 (hbe _ _) rfl 2 (by decide) rfl fl_X0_21 rfl dX0_reduce_68 ?_
            refine r_topl (w := lN q.2.1) (by rw [mJ_eq, vL_n _ _ (by decide)]; exact hq.2.2.1) ?_
            refine r_lload_n C dX0_reduce_71 rfl 1 rfl ?_
            refine r_ldiv C dX0_reduce_72 (by intro h9; have h8 := (lgcN_eq (a := Nat.gcd q.1 q.2.1) (b := 0) (by omega) (by decide)); rw [lgc_eq] at h8; have := h8.mp h9; omega) ?_
            refine r_topl (w := lN (q.2.1 / (Nat.gcd q.1 q.2.1))) (pk_lDiv (by omega) (by omega) (by omega)) ?_
            refine r_put C (M2 := (mJ (mJ M b 1 (lN (q.1 / (Nat.gcd q.1 q.2.1)))) b 2 (lN (q.2.1 / (Nat.gcd q.1 q.2.1))))) (Cn := RX0) (T := TX0) (N := 4) (id := b) hb inw_X0 tyX0_ok nmX0 (hbe _ _) rfl 2 (by decide) rfl fl_X0_21 rfl rfl (rfl) (Nat.le_of_ble_eq_true rfl) (fun j hj => ⟨rfl, mJ_ne _ hj⟩) (by rw [mJ_1, mJ_eq, hbe]; rfl) dX0_reduce_73 ?_
            exact E 0 _ _ _ (Nat.le_of_ble_eq_true rfl) dX0_reduce_76 (⟨(((oB.rf b M).J).J), by rw [mJ_1, mJ_1]; exact hq.1, by rw [mJ_eq, vL_n _ _ (by decide), mJ_eq, vL_e]; rfl, by rw [mJ_eq, vL_e]; rfl, by rw [mJ_1, mJ_1]; exact hq.2.2.2⟩)
        ·
          refine r_lload_n C dX0_reduce_28 rfl 2 rfl ?_
          refine r_lconst C (lN 0) dX0_reduce_29 rfl ?_
          refine r_lcmp C dX0_reduce_30 ?_
          refine r_if_eq C 50 dX0_reduce_31 (by decide) (fun h31 => ?_) (fun h31 => ?_)
          ·
            rw [lgcN_eq (by omega) (by omega)] at h31
            have hz : (eu q.1 q.2.1 k).2 = 0 := h31
            have hgc : (eu q.1 q.2.1 k).1 = Nat.gcd q.1 q.2.1 := by have h9 := eu_g (a := q.1) (b := q.2.1) (k := k); rw [hz, Nat.gcd_zero_right] at h9; exact h9
            have hgp : 0 < Nat.gcd q.1 q.2.1 := Nat.gcd_pos_of_pos_right _ hb0
            rw [hgc]
            have hgl : Nat.gcd q.1 q.2.1 ≤ q.2.1 := Nat.le_of_dvd hb0 (Nat.gcd_dvd_right _ _)
            refine r_lload_n C dX0_reduce_50 rfl 1 rfl ?_
            refine r_lconst C (lN 1) dX0_reduce_51 rfl ?_
            refine r_lcmp C dX0_reduce_52 ?_
            refine r_if_le C 76 dX0_reduce_53 (by decide) (fun h53 => ?_) (fun h53 => ?_)
            ·
              rw [lgcN_le (by omega) (by omega)] at h53
              exact E 0 _ _ _ (Nat.le_of_ble_eq_true rfl) dX0_reduce_76 (⟨oB.rf b M, hq.1, by rw [hq.2.1]; exact congrArg lN (congrArg Prod.fst (rd_1 hb0 rfl (by omega))).symm, by rw [hq.2.2.1]; exact congrArg lN (congrArg Prod.snd (rd_1 hb0 rfl (by omega))).symm, hq.2.2.2⟩)
            ·
              rw [lgcN_le (by omega) (by omega)] at h53
              refine r_aload_n C dX0_reduce_56 rfl 3 rfl ?_
              refine r_dup C dX0_reduce_57 rfl ?_
              refine r_get C (Cn := RX0) (T := TX0) (N := 4) (id := b) hb inw_X0 (hbe _ _) rfl 1 (by decide) rfl fl_X0_17 rfl dX0_reduce_58 ?_
              refine r_topl (w := lN q.1) hq.2.1 ?_
              refine r_lload_n C dX0_reduce_61 rfl 1 rfl ?_
              refine r_ldiv C dX0_reduce_62 (by intro h9; have h8 := (lgcN_eq (a := Nat.gcd q.1 q.2.1) (b := 0) (by omega) (by decide)); rw [lgc_eq] at h8; have := h8.mp h9; omega) ?_
              refine r_topl (w := lN (q.1 / (Nat.gcd q.1 q.2.1))) (pk_lDiv (by omega) (by omega) (by omega)) ?_
              refine r_put C (M2 := (mJ M b 1 (lN (q.1 / (Nat.gcd q.1 q.2.1))))) (Cn := RX0) (T := TX0) (N := 4) (id := b) hb inw_X0 tyX0_ok nmX0 (hbe _ _) rfl 1 (by decide) rfl fl_X0_17 rfl rfl (rfl) (Nat.le_of_ble_eq_true rfl) (fun j hj => ⟨rfl, mJ_ne _ hj⟩) (by rw [mJ_1, mJ_eq, hbe]; rfl) dX0_reduce_63 ?_
              refine r_aload_n C dX0_reduce_66 rfl 3 rfl ?_
              refine r_dup C dX0_reduce_67 rfl ?_
              refine r_get C (Cn := RX0) (T := TX0) (N := 4) (id := b) hb inw_X0 (hbe _ _) rfl 2 (by decide) rfl fl_X0_21 rfl dX0_reduce_68 ?_
              refine r_topl (w := lN q.2.1) (by rw [mJ_eq, vL_n _ _ (by decide)]; exact hq.2.2.1) ?_
              refine r_lload_n C dX0_reduce_71 rfl 1 rfl ?_
              refine r_ldiv C dX0_reduce_72 (by intro h9; have h8 := (lgcN_eq (a := Nat.gcd q.1 q.2.1) (b := 0) (by omega) (by decide)); rw [lgc_eq] at h8; have := h8.mp h9; omega) ?_
              refine r_topl (w := lN (q.2.1 / (Nat.gcd q.1 q.2.1))) (pk_lDiv (by omega) (by omega) (by omega)) ?_
              refine r_put C (M2 := (mJ (mJ M b 1 (lN (q.1 / (Nat.gcd q.1 q.2.1)))) b 2 (lN (q.2.1 / (Nat.gcd q.1 q.2.1))))) (Cn := RX0) (T := TX0) (N := 4) (id := b) hb inw_X0 tyX0_ok nmX0 (hbe _ _) rfl 2 (by decide) rfl fl_X0_21 rfl rfl (rfl) (Nat.le_of_ble_eq_true rfl) (fun j hj => ⟨rfl, mJ_ne _ hj⟩) (by rw [mJ_1, mJ_eq, hbe]; rfl) dX0_reduce_73 ?_
              exact E 0 _ _ _ (Nat.le_of_ble_eq_true rfl) dX0_reduce_76 (⟨(((oB.rf b M).J).J), by rw [mJ_1, mJ_1]; exact hq.1, by rw [mJ_eq, vL_n _ _ (by decide), mJ_eq, vL_e]; rfl, by rw [mJ_eq, vL_e]; rfl, by rw [mJ_1, mJ_1]; exact hq.2.2.2⟩)
          ·
            rw [lgcN_eq (by omega) (by omega)] at h31
            refine r_lload_n C dX0_reduce_34 rfl 1 rfl ?_
            refine r_lload_n C dX0_reduce_35 rfl 2 rfl ?_
            refine r_lrem C dX0_reduce_36 (fun h9 => h31 (by have := (lgcN_eq (a := (eu q.1 q.2.1 k).2) (b := 0) (by have := (eu_le (Nat.le_of_lt ha) (Nat.le_of_lt hb9) (k := k)).2; omega) (by decide)); rw [← this, lgc_eq]; exact h9)) ?_
            refine r_topl (w := lN (((eu q.1 q.2.1 k).1) % ((eu q.1 q.2.1 k).2))) (pk_lRem (by omega) (by omega) (by omega)) ?_
            refine r_lstore C [(6, .long (lN (((eu q.1 q.2.1 k).1) % ((eu q.1 q.2.1 k).2)))), (5, .int (nI k)), (1, .long (lN ((eu q.1 q.2.1 k).1))), (3, .long (lN ((eu q.1 q.2.1 k).2))), (0, .ref (ad b))] dX0_reduce_37 (by decide) rfl ?_
            refine r_lload_n C dX0_reduce_39 rfl 3 rfl ?_
            refine r_lstore_n C [(1, .long (lN ((eu q.1 q.2.1 k).2))), (6, .long (lN (((eu q.1 q.2.1 k).1) % ((eu q.1 q.2.1 k).2)))), (5, .int (nI k)), (3, .long (lN ((eu q.1 q.2.1 k).2))), (0, .ref (ad b))] dX0_reduce_40 rfl (by decide) rfl ?_
            refine r_lload C dX0_reduce_41 1 rfl ?_
            refine r_lstore_n C [(3, .long (lN (((eu q.1 q.2.1 k).1) % ((eu q.1 q.2.1 k).2)))), (1, .long (lN ((eu q.1 q.2.1 k).2))), (6, .long (lN (((eu q.1 q.2.1 k).1) % ((eu q.1 q.2.1 k).2)))), (5, .int (nI k)), (0, .ref (ad b))] dX0_reduce_43 rfl (by decide) rfl ?_
            refine r_lve (lv2 := [(3, .long (lN ((eu q.1 q.2.1 (k + 1)).2))), (1, .long (lN ((eu q.1 q.2.1 (k + 1)).1))), (6, .long (lN (((eu q.1 q.2.1 k).1) % ((eu q.1 q.2.1 k).2)))), (5, .int (nI k)), (0, .ref (ad b))]) (by rw [eu_s h31]) ?_
            refine r_iinc C (nI (k + 1)) [(5, .int (nI (k + 1))), (3, .long (lN ((eu q.1 q.2.1 (k + 1)).2))), (1, .long (lN ((eu q.1 q.2.1 (k + 1)).1))), (6, .long (lN (((eu q.1 q.2.1 k).1) % ((eu q.1 q.2.1 k).2)))), (0, .ref (ad b))] dX0_reduce_44 (j := 3) rfl (inc_n k 1) (by decide) rfl ?_
            refine r_goto C 21 dX0_reduce_47 (by decide) ?_
            refine r_lv (lv2 := [(5, .int (nI (k + 1))), (1, .long (lN ((eu q.1 q.2.1 (k + 1)).1))), (3, .long (lN ((eu q.1 q.2.1 (k + 1)).2))), (0, .ref (ad b))]) [0, 2, 1, 4] rfl ?_
            exact ih (k + 1) (by omega) (by omega) (by omega)
    refine r_lv (lv2 := [(5, .int (nI 0)), (1, .long (lN ((eu q.1 q.2.1 0).1))), (3, .long (lN ((eu q.1 q.2.1 0).2))), (0, .ref (ad b))]) [0, 2, 1, 3] rfl ?_
    exact Lp (101 + 1) 0 (by omega) (by omega) (by omega)
  · exact absurd (h4.symm.trans (rfl : true = true)) (by decide)
