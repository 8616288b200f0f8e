/-! ===== the reference's bound (written by wip/whole/gen/model6.py) ===== -/
theorem lgcN_eq {a b : Nat} (ha : a < 2 ^ 63) (hb : b < 2 ^ 63) : (lg_cmp (lN a) (lN b) = 0) = (a = b) := by
  rw [lgc_eq, pk_lEQ ha hb]
theorem lg_cases (x y : Int64) : (y < x ∧ lg_cmp x y = 1) ∨ (x = y ∧ lg_cmp x y = 0) ∨ (¬ y < x ∧ ¬ x = y ∧ lg_cmp x y = -1) := by
  unfold lg_cmp
  by_cases h1 : y < x
  · exact Or.inl ⟨h1, if_pos h1⟩
  · by_cases h2 : x = y
    · exact Or.inr (Or.inl ⟨h2, by rw [if_neg h1, if_pos h2]⟩)
    · exact Or.inr (Or.inr ⟨h1, h2, by rw [if_neg h1, if_neg h2]⟩)
theorem lgcN_le {a b : Nat} (ha : a < 2 ^ 63) (hb : b < 2 ^ 63) : (lg_cmp (lN a) (lN b) ≤ 0) = (a ≤ b) := by
  have h1 := pk_lLT hb ha
  have h2 := pk_lEQ ha hb
  apply propext
  rcases lg_cases (lN a) (lN b) with ⟨q, e⟩ | ⟨q, e⟩ | ⟨q, q2, e⟩
  · rw [e, h1] at *
    constructor
    · intro h; exact absurd h (by decide)
    · intro h; omega
  · rw [e]; rw [h2] at q
    constructor
    · intro _; omega
    · intro _; decide
  · rw [e]; rw [h1] at q; rw [h2] at q2
    constructor
    · intro _; omega
    · intro _; decide
theorem lgcN_ge {a b : Nat} (ha : a < 2 ^ 63) (hb : b < 2 ^ 63) : (0 ≤ lg_cmp (lN a) (lN b)) = (b ≤ a) := by
  have h1 := pk_lLT hb ha
  have h2 := pk_lEQ ha hb
  apply propext
  rcases lg_cases (lN a) (lN b) with ⟨q, e⟩ | ⟨q, e⟩ | ⟨q, q2, e⟩
  · rw [e]; rw [h1] at q
    constructor
    · intro _; omega
    · intro _; decide
  · rw [e]; rw [h2] at q
    constructor
    · intro _; omega
    · intro _; decide
  · rw [e]; rw [h1] at q; rw [h2] at q2
    constructor
    · intro h; exact absurd h (by decide)
    · intro h; omega
theorem lgcN_ne {a b : Nat} (ha : a < 2 ^ 63) (hb : b < 2 ^ 63) : (lg_cmp (lN a) (lN b) = 0) = (a = b) := lgcN_eq ha hb
theorem cm_fin {x y a b : Nat} (h : y ≤ 0) (hg : Nat.gcd x y = Nat.gcd a b) : x = Nat.gcd a b := by
  have e : y = 0 := by omega
  subst e; rw [← hg, Nat.gcd_zero_right]
def tel (t : Nat) : Int32 := if t = 0 then -1 else nI (t - 1)
theorem tel_s (v : Nat) : nI v = tel (v + 1) := rfl
theorem tel_0 {t : Nat} (h : t ≤ 8) : tel t = -1 ↔ t = 0 := by
  have : ∀ t : Fin 9, tel t.val = -1 ↔ t.val = 0 := by decide +kernel
  exact this ⟨t, by omega⟩
/-- the greatest fraction among the first vertices, as it is found: above, below, the vertex and 1 -/
def bnS (wt U S : Nat → Nat) (H : Nat) : Nat → Nat × Nat × Nat
  | 0 => (0, 1, 0)
  | v + 1 => if 0 < wt v ∧ ((bnS wt U S H v).2.2 = 0 ∨ (bnS wt U S H v).1 * S v < wt v * H * U v * (bnS wt U S H v).2.1) then (wt v * H * U v, S v, v + 1) else bnS wt U S H v
/-- what the numbers of a graph with its handle are in bounds -/
def bnH (z : Nat → Int32) (n : Nat) (wt U S : Nat → Nat) (H : Nat) : Prop :=
  (∀ v, v < n → z (2 + v) = nI (wt v) ∧ wt v ≤ 9) ∧ (∀ v, v < n → dotz z (18 + 4 * v) (18 + 4 * v) = nI (U v) ∧ U v ≤ 400) ∧ (∀ v, v < n → (dotz z 50 (18 + 4 * v)).toInt64 * (dotz z 50 (18 + 4 * v)).toInt64 = lN (S v) ∧ S v ≤ 200000) ∧ dotz z 50 50 = nI H ∧ H ≤ 400 ∧ (∀ v, v < n → 0 < wt v → 0 < S v)
theorem bnS_le {z : Nat → Int32} {n : Nat} {wt U S : Nat → Nat} {H : Nat} (h : bnH z n wt U S H) : ∀ k, k ≤ n → (bnS wt U S H k).1 ≤ 1440000 ∧ 0 < (bnS wt U S H k).2.1 ∧ (bnS wt U S H k).2.1 ≤ 200000 ∧ (bnS wt U S H k).2.2 ≤ k
  | 0, _ => show (0 : Nat) ≤ 1440000 ∧ 0 < 1 ∧ 1 ≤ 200000 ∧ 0 ≤ 0 from by decide
  | k + 1, hk => by
    have ih := bnS_le h k (by omega)
    unfold bnS
    split
    · rename_i q
      have a1 := (h.1 k (by omega)).2
      have a2 := (h.2.1 k (by omega)).2
      have a3 := (h.2.2.1 k (by omega)).2
      have a4 := h.2.2.2.2.1
      have a5 := h.2.2.2.2.2 k (by omega) q.1
      have m1 : wt k * H ≤ 9 * 400 := Nat.mul_le_mul a1 a4
      have m2 : wt k * H * U k ≤ 9 * 400 * 400 := Nat.mul_le_mul m1 a2
      exact ⟨by omega, a5, a3, Nat.le_refl _⟩
    · exact ⟨ih.1, ih.2.1, ih.2.2.1, by omega⟩
def setB (M : Mm) (a b : Int64) (t : Int32) : Mm := mI (mJ (mJ M 135 8 a) 135 9 b) 135 10 t
theorem setB_1 {M : Mm} {a b : Int64} {t : Int32} {j : Nat} (h : j ≠ 135) : (setB M a b t).1 j = M.1 j := by
  unfold setB mI mJ; dsimp only; rw [if_neg h]
theorem setB_ss (M : Mm) (a b a' b' : Int64) (t t' : Int32) : mI (mJ (mJ (setB M a b t) 135 8 a') 135 9 b') 135 10 t' = setB M a' b' t' := by
  refine mx (fun j => ?_) (fun j => ?_)
  · unfold setB mI mJ; dsimp only
    by_cases e : j = 135
    · subst e; rw [if_pos rfl, if_pos rfl, if_pos rfl]; funext k; simp only [upd]; split <;> rfl
    · rw [if_neg e, if_neg e, if_neg e]
  · unfold setB mI mJ; dsimp only
    by_cases e : j = 135
    · subst e; rw [if_pos rfl, if_pos rfl, if_pos rfl]; funext k; simp only [vp_updL, if_true]; repeat' split
      all_goals first | rfl | (exfalso; omega)
    · rw [if_neg e, if_neg e, if_neg e]; simp [e]
theorem setB_dd (M : Mm) (a b a' b' : Int64) (t : Int32) : mJ (mJ (setB M a b t) 135 8 a') 135 9 b' = setB M a' b' t := by
  refine mx (fun j => rfl) (fun j => ?_)
  unfold setB mI mJ; dsimp only
  by_cases e : j = 135
  · subst e; rw [if_pos rfl, if_pos rfl, if_pos rfl]; funext k; simp only [vp_updL, if_true]; repeat' split
    all_goals first | rfl | (exfalso; omega)
  · rw [if_neg e, if_neg e, if_neg e]; simp [e]
def bnA (wt U S : Nat → Nat) (H n : Nat) : Nat := (bnS wt U S H n).1 / Nat.gcd (bnS wt U S H n).1 (bnS wt U S H n).2.1
def bnB (wt U S : Nat → Nat) (H n : Nat) : Nat := (bnS wt U S H n).2.1 / Nat.gcd (bnS wt U S H n).1 (bnS wt U S H n).2.1
def bnT (wt U S : Nat → Nat) (H n : Nat) : Int32 := tel (bnS wt U S H n).2.2
def layM (M : Mm) (wt U S : Nat → Nat) (H n : Nat) : Mm := setB M (lN (bnA wt U S H n)) (lN (bnB wt U S H n)) (bnT wt U S H n)
set_option maxRecDepth 100000 in
set_option maxHeartbeats 4000000 in
theorem c_X8_common (l : Launch) (D : va_G) (cs : Nat → ClassId) (ad : Nat → Nat) (M : Mm) (a b : Nat) (ha : a < 2 ^ 62) (hb : b < 2 ^ 62) : ∀ sz : Nat, Met l yX8_common (.code yX8_common cX8_common 10 (some .long) :: TT) { frames := 0, cells := 0, slots := 0, locals := 0 } (va_Pc [.long (lN a), .long (lN b)] (fun U9 => U9.heap.size = sz ∧ wB D cs ad (fA ad sz) M U9)) (va_Ql (fun r M2 => r = lN (Nat.gcd a b) ∧ M2 = M) (wB D cs ad (fA ad sz)) (fA ad sz)) 0 0 (fA ad sz) := by
  refine st_L (by decide) (Nat.le_of_ble_eq_true rfl) (fun κ C E => ?_)
  refine r_lv (lv2 := [(0, .long (lN a)), (2, .long (lN b))]) [0, 1] rfl ?_
  refine r_lload_n C dX8_common_0 rfl 0 rfl ?_
  refine r_lstore C [(4, .long (lN a)), (0, .long (lN a)), (2, .long (lN b))] dX8_common_1 (by decide) rfl ?_
  refine r_lload_n C dX8_common_3 rfl 2 rfl ?_
  refine r_lstore C [(6, .long (lN b)), (4, .long (lN a)), (0, .long (lN a)), (2, .long (lN b))] dX8_common_4 (by decide) rfl ?_
  have Lc : ∀ f x y : Nat, y < f → x < 2 ^ 62 → y < 2 ^ 62 → Nat.gcd x y = Nat.gcd a b → VV l D cs ad 10 κ 0 M 6 [(6, .long (lN y)), (4, .long (lN x)), (0, .long (lN a)), (2, .long (lN b))] [] := by
    intro f
    induction f with
    | zero => intro x y h1; exact absurd h1 (by omega)
    | succ f ih =>
      intro x y h1 h2 h3 hg
      have hg2 : Nat.gcd y (x % y) = Nat.gcd x y := by rw [Nat.gcd_comm y, Nat.gcd_comm x]; exact (Nat.gcd_rec y x).symm
      refine r_lload C dX8_common_6 0 rfl ?_
      refine r_lconst C (lN 0) dX8_common_8 rfl ?_
      refine r_lcmp C dX8_common_9 ?_
      refine r_if_le C 31 dX8_common_10 (by decide) (fun h10 => ?_) (fun h10 => ?_)
      ·
        rw [lgcN_le (by omega) (by omega)] at h10
        refine r_lload C dX8_common_31 1 rfl ?_
        exact E 0 _ _ _ _ (Nat.le_of_ble_eq_true rfl) dX8_common_33 (⟨congrArg lN (cm_fin h10 hg), rfl⟩)
      ·
        rw [lgcN_le (by omega) (by omega)] at h10
        refine r_lload C dX8_common_13 1 rfl ?_
        refine r_lload C dX8_common_15 0 rfl ?_
        refine r_lrem C dX8_common_17 (fun q => absurd ((pk_lEQ (a := y) (b := 0) (by omega) (by decide)).mp q) (by omega)) ?_
        refine r_topl (w := lN (x % y)) (pk_lRem (by omega) (by omega) (by omega)) ?_
        refine r_lstore C [(8, .long (lN (x % y))), (6, .long (lN y)), (4, .long (lN x)), (0, .long (lN a)), (2, .long (lN b))] dX8_common_18 (by decide) rfl ?_
        refine r_lload C dX8_common_20 1 rfl ?_
        refine r_lstore C [(4, .long (lN y)), (8, .long (lN (x % y))), (6, .long (lN y)), (0, .long (lN a)), (2, .long (lN b))] dX8_common_22 (by decide) rfl ?_
        refine r_lload C dX8_common_24 1 rfl ?_
        refine r_lstore C [(6, .long (lN (x % y))), (4, .long (lN y)), (8, .long (lN (x % y))), (0, .long (lN a)), (2, .long (lN b))] dX8_common_26 (by decide) rfl ?_
        refine r_goto C 6 dX8_common_28 (by decide) ?_
        refine r_lv (lv2 := [(6, .long (lN (x % y))), (4, .long (lN y)), (0, .long (lN a)), (2, .long (lN b))]) [0, 1, 3, 4] rfl ?_
        have h9 : x % y < y := Nat.mod_lt _ (by omega)
        exact ih y (x % y) (by omega) (by omega) (by omega) (hg2.trans hg)
  exact Lc (b + 1) a b (by omega) (by omega) (by omega) rfl
set_option maxRecDepth 100000 in
set_option maxHeartbeats 4000000 in
theorem c_X8_layBound (l : Launch) (D : va_G) (cs : Nat → ClassId) (ad : Nat → Nat) (M : Mm) (n : Nat) (hn : M.1 136 0 = nI n) (hn8 : n ≤ 8) (wt U S : Nat → Nat) (H : Nat) (hB : bnH (M.1 136) n wt U S H) : ∀ sz : Nat, Met l yX8_layBound (.code yX8_layBound cX8_layBound 6 none :: TT) { frames := 2, cells := 0, slots := 0, locals := 45 } (va_Pc [.ref (ad 135)] (fun U9 => U9.heap.size = sz ∧ wB D cs ad (fA ad sz) M U9)) (va_Qv (fun M2 => M2 = layM M wt U S H n) (wB D cs ad (fA ad sz)) (fA ad sz)) 0 0 (fA ad sz) := by
  refine st_V (by decide) (Nat.le_of_ble_eq_true rfl) (fun κ C E => ?_)
  refine r_lv (lv2 := [(0, .ref (ad 135))]) [0] rfl ?_
  refine r_aload_n C dX8_layBound_0 rfl 0 rfl ?_
  refine r_lconst C (lN 0) dX8_layBound_1 rfl ?_
  refine r_put C (M2 := (mJ M 135 8 (lN 0))) (Cn := RX8) (T := TX8) (N := 18) (id := 135) (by decide) inw_X8 tyX8_ok nmX8 rfl rfl 8 (by decide) rfl fl_X8_83 rfl rfl (rfl) (Nat.le_of_ble_eq_true rfl) (fun j hj => ⟨rfl, mJ_ne _ hj⟩) rfl dX8_layBound_2 ?_
  refine r_aload_n C dX8_layBound_5 rfl 0 rfl ?_
  refine r_lconst C (lN 1) dX8_layBound_6 rfl ?_
  refine r_put C (M2 := (mJ (mJ M 135 8 (lN 0)) 135 9 (lN 1))) (Cn := RX8) (T := TX8) (N := 18) (id := 135) (by decide) inw_X8 tyX8_ok nmX8 rfl rfl 9 (by decide) rfl fl_X8_87 rfl rfl (rfl) (Nat.le_of_ble_eq_true rfl) (fun j hj => ⟨rfl, mJ_ne _ hj⟩) rfl dX8_layBound_7 ?_
  refine r_aload_n C dX8_layBound_10 rfl 0 rfl ?_
  refine r_iconst C ((-1)) dX8_layBound_11 (by decide) ?_
  refine r_put C (M2 := (mI (mJ (mJ M 135 8 (lN 0)) 135 9 (lN 1)) 135 10 (-1))) (Cn := RX8) (T := TX8) (N := 18) (id := 135) (by decide) inw_X8 tyX8_ok nmX8 rfl rfl 10 (by decide) rfl fl_X8_90 rfl rfl (rfl) (Nat.le_of_ble_eq_true rfl) (fun j hj => ⟨mI_ne _ hj, rfl⟩) rfl dX8_layBound_12 ?_
  refine r_iconst C (nI 0) dX8_layBound_15 (by decide) ?_
  refine r_istore_n C [(1, .int (nI 0)), (0, .ref (ad 135))] dX8_layBound_16 rfl (by decide) rfl ?_
  have Lp : ∀ (f k : Nat), n + 1 ≤ k + f → k ≤ n → VV l D cs ad 6 κ 0 (setB M (lN (bnS wt U S H k).1) (lN (bnS wt U S H k).2.1) (tel (bnS wt U S H k).2.2)) 17 [(1, .int (nI k)), (0, .ref (ad 135))] [] := by
    intro f
    induction f with
    | zero => intro k hk1 hk2; exact absurd hk1 (by omega)
    | succ f ih =>
      intro k hk1 hk2
      refine r_iload_n C dX8_layBound_17 rfl 0 rfl ?_
      refine r_aload_n C dX8_layBound_18 rfl 1 rfl ?_
      refine r_get C (Cn := RX8) (T := TX8) (N := 18) (id := 135) (by decide) inw_X8 rfl rfl 0 (by decide) rfl fl_X8_7 rfl dX8_layBound_19 ?_
      refine r_iconst C (nI 0) dX8_layBound_22 (by decide) ?_
      refine r_iald C (id := 136) (n := 55) (a := 0) (by decide) rfl (by decide) (by decide) dX8_layBound_23 ?_
      refine r_topi (w := (M.1 136 0)) (rfl) ?_
      refine r_topi hn ?_
      refine r_icmpN_ge C 128 dX8_layBound_24 (by decide) (by omega) (by omega) (fun h24 => ?_) (fun h24 => ?_)
      ·
        have hk9 : n = k := by omega
        subst hk9
        have b1 := bnS_le hB n (Nat.le_refl _)
        have hgp : 0 < Nat.gcd (bnS wt U S H n).1 (bnS wt U S H n).2.1 := Nat.gcd_pos_of_pos_right _ b1.2.1
        have hgl : Nat.gcd (bnS wt U S H n).1 (bnS wt U S H n).2.1 ≤ (bnS wt U S H n).2.1 := Nat.gcd_le_right _ b1.2.1
        refine r_aload_n C dX8_layBound_128 rfl 1 rfl ?_
        refine r_get C (Cn := RX8) (T := TX8) (N := 18) (id := 135) (by decide) inw_X8 rfl rfl 8 (by decide) rfl fl_X8_83 rfl dX8_layBound_129 ?_
        refine r_topl (w := lN ((bnS wt U S H n).1)) (rfl) ?_
        refine r_aload_n C dX8_layBound_132 rfl 1 rfl ?_
        refine r_get C (Cn := RX8) (T := TX8) (N := 18) (id := 135) (by decide) inw_X8 rfl rfl 9 (by decide) rfl fl_X8_87 rfl dX8_layBound_133 ?_
        refine r_topl (w := lN ((bnS wt U S H n).2.1)) (rfl) ?_
        refine r_pcallS_l (nA := 2) C (Nat.le_of_ble_eq_true rfl) [.long (lN ((bnS wt U S H n).1)), .long (lN ((bnS wt U S H n).2.1))] (c_X8_common l D cs ad (setB M (lN (bnS wt U S H n).1) (lN (bnS wt U S H n).2.1) (tel (bnS wt U S H n).2.2)) ((bnS wt U S H n).1) ((bnS wt U S H n).2.1) (by omega) (by omega)) (tt_S ml_X8_93 st_X8_common in_X8 co_X8_common) ⟨rfl, rfl⟩ ⟨rfl, by decide, by decide, by decide⟩ ⟨Nat.le_of_ble_eq_true rfl, Nat.le_of_ble_eq_true rfl⟩ rfl rfl (Nat.le_of_ble_eq_true rfl) dX8_layBound_136 ?_
        refine r_lstore_n C [(1, .long (lN (Nat.gcd ((bnS wt U S H n).1) ((bnS wt U S H n).2.1)))), (0, .ref (ad 135))] dX8_layBound_139 rfl (by decide) rfl ?_
        refine r_aload_n C dX8_layBound_140 rfl 1 rfl ?_
        refine r_dup C dX8_layBound_141 rfl ?_
        refine r_get C (Cn := RX8) (T := TX8) (N := 18) (id := 135) (by decide) inw_X8 rfl rfl 8 (by decide) rfl fl_X8_83 rfl dX8_layBound_142 ?_
        refine r_topl (w := lN ((bnS wt U S H n).1)) (rfl) ?_
        refine r_lload_n C dX8_layBound_145 rfl 0 rfl ?_
        refine r_ldiv C dX8_layBound_146 (fun q => absurd ((pk_lEQ (a := Nat.gcd (bnS wt U S H n).1 (bnS wt U S H n).2.1) (b := 0) (by omega) (by decide)).mp q) (by omega)) ?_
        refine r_topl (w := lN (((bnS wt U S H n).1) / (Nat.gcd ((bnS wt U S H n).1) ((bnS wt U S H n).2.1)))) (pk_lDiv (by omega) (by omega) (by omega)) ?_
        refine r_put C (M2 := (mJ (setB M (lN (bnS wt U S H n).1) (lN (bnS wt U S H n).2.1) (tel (bnS wt U S H n).2.2)) 135 8 (lN (((bnS wt U S H n).1) / (Nat.gcd ((bnS wt U S H n).1) ((bnS wt U S H n).2.1)))))) (Cn := RX8) (T := TX8) (N := 18) (id := 135) (by decide) inw_X8 tyX8_ok nmX8 rfl rfl 8 (by decide) rfl fl_X8_83 rfl rfl (rfl) (Nat.le_of_ble_eq_true rfl) (fun j hj => ⟨rfl, mJ_ne _ hj⟩) rfl dX8_layBound_147 ?_
        refine r_aload_n C dX8_layBound_150 rfl 1 rfl ?_
        refine r_dup C dX8_layBound_151 rfl ?_
        refine r_get C (Cn := RX8) (T := TX8) (N := 18) (id := 135) (by decide) inw_X8 rfl rfl 9 (by decide) rfl fl_X8_87 rfl dX8_layBound_152 ?_
        refine r_topl (w := lN ((bnS wt U S H n).2.1)) (rfl) ?_
        refine r_lload_n C dX8_layBound_155 rfl 0 rfl ?_
        refine r_ldiv C dX8_layBound_156 (fun q => absurd ((pk_lEQ (a := Nat.gcd (bnS wt U S H n).1 (bnS wt U S H n).2.1) (b := 0) (by omega) (by decide)).mp q) (by omega)) ?_
        refine r_topl (w := lN (((bnS wt U S H n).2.1) / (Nat.gcd ((bnS wt U S H n).1) ((bnS wt U S H n).2.1)))) (pk_lDiv (by omega) (by omega) (by omega)) ?_
        refine r_put C (M2 := (mJ (mJ (setB M (lN (bnS wt U S H n).1) (lN (bnS wt U S H n).2.1) (tel (bnS wt U S H n).2.2)) 135 8 (lN (((bnS wt U S H n).1) / (Nat.gcd ((bnS wt U S H n).1) ((bnS wt U S H n).2.1))))) 135 9 (lN (((bnS wt U S H n).2.1) / (Nat.gcd ((bnS wt U S H n).1) ((bnS wt U S H n).2.1)))))) (Cn := RX8) (T := TX8) (N := 18) (id := 135) (by decide) inw_X8 tyX8_ok nmX8 rfl rfl 9 (by decide) rfl fl_X8_87 rfl rfl (rfl) (Nat.le_of_ble_eq_true rfl) (fun j hj => ⟨rfl, mJ_ne _ hj⟩) rfl dX8_layBound_157 ?_
        exact E 0 _ _ _ (Nat.le_of_ble_eq_true rfl) dX8_layBound_160 (setB_dd _ _ _ _ _ _)
      ·
        have b1 := bnS_le hB k (by omega)
        have a1 := (hB.1 k (by omega)).2
        have a2 := (hB.2.1 k (by omega)).2
        have a3 := (hB.2.2.1 k (by omega)).2
        have a4 := hB.2.2.2.2.1
        have m1 : wt k * H ≤ 9 * 400 := Nat.mul_le_mul a1 a4
        have m2 : wt k * H * U k ≤ 9 * 400 * 400 := Nat.mul_le_mul m1 a2
        have m3 : wt k * H * U k * (bnS wt U S H k).2.1 ≤ 9 * 400 * 400 * 200000 := Nat.mul_le_mul m2 b1.2.2.1
        have m4 : (bnS wt U S H k).1 * S k ≤ 1440000 * 200000 := Nat.mul_le_mul b1.1 a3
        refine r_aload_n C dX8_layBound_27 rfl 1 rfl ?_
        refine r_iload_n C dX8_layBound_28 rfl 0 rfl ?_
        refine r_pcallV_i (nA := 1) C (Nat.le_of_ble_eq_true rfl) [.int (nI k)] (c_X8_weight l D cs ad (setB M (lN (bnS wt U S H k).1) (lN (bnS wt U S H k).2.1) (tel (bnS wt U S H k).2.2)) k (by omega)) (tt_V ml_X8_70 im_X8_weight se_X8_weight in_X8 co_X8_weight) ⟨rfl, rfl⟩ ⟨rfl, by decide, by decide, by decide⟩ ⟨Nat.le_of_ble_eq_true rfl, Nat.le_of_ble_eq_true rfl⟩ (by decide) rfl rfl rfl rfl rfl (Nat.le_of_ble_eq_true rfl) dX8_layBound_29 ?_
        refine r_topi (w := (M.1 136 (2 + k))) rfl ?_
        refine r_topi (w := nI (wt k)) ((hB.1 k (by omega)).1) ?_
        refine r_ifN_le C 122 dX8_layBound_32 (by decide) (by omega) (fun h32 => ?_) (fun h32 => ?_)
        ·
          refine r_iinc C (nI (k + 1)) [(1, .int (nI (k + 1))), (0, .ref (ad 135))] dX8_layBound_122 (j := 0) rfl (inc_n k 1) (by decide) rfl ?_
          refine r_goto C 17 dX8_layBound_125 (by decide) ?_
          refine r_lv (lv2 := [(1, .int (nI (k + 1))), (0, .ref (ad 135))]) [0, 1] rfl ?_
          have eb : bnS wt U S H (k + 1) = bnS wt U S H k := by
            show (if _ then _ else _) = _
            rw [if_neg]
            rintro ⟨e1, e2 | e2⟩
            · first | omega | exact h86 ((tel_0 (by omega)).mpr e2)
            · omega
          refine r_mem (M2 := (setB M (lN (bnS wt U S H (k + 1)).1) (lN (bnS wt U S H (k + 1)).2.1) (tel (bnS wt U S H (k + 1)).2.2))) (by rw [eb]) ?_
          exact ih (k + 1) (by omega) (by omega)
        ·
          refine r_aload_n C dX8_layBound_35 rfl 1 rfl ?_
          refine r_iload_n C dX8_layBound_36 rfl 0 rfl ?_
          refine r_pcallV_i (nA := 1) C (Nat.le_of_ble_eq_true rfl) [.int (nI k)] (c_X8_weight l D cs ad (setB M (lN (bnS wt U S H k).1) (lN (bnS wt U S H k).2.1) (tel (bnS wt U S H k).2.2)) k (by omega)) (tt_V ml_X8_70 im_X8_weight se_X8_weight in_X8 co_X8_weight) ⟨rfl, rfl⟩ ⟨rfl, by decide, by decide, by decide⟩ ⟨Nat.le_of_ble_eq_true rfl, Nat.le_of_ble_eq_true rfl⟩ (by decide) rfl rfl rfl rfl rfl (Nat.le_of_ble_eq_true rfl) dX8_layBound_37 ?_
          refine r_topi (w := (M.1 136 (2 + k))) rfl ?_
          refine r_topi (w := nI (wt k)) ((hB.1 k (by omega)).1) ?_
          refine r_i2l C dX8_layBound_40 ?_
          refine r_topl (w := lN (wt k)) (nI_l (by omega)) ?_
          refine r_aload_n C dX8_layBound_41 rfl 1 rfl ?_
          refine r_bipush C (nI 50) dX8_layBound_42 (by decide) ?_
          refine r_bipush C (nI 50) dX8_layBound_44 (by decide) ?_
          refine r_pcallV_i (nA := 2) C (Nat.le_of_ble_eq_true rfl) [.int (nI 50), .int (nI 50)] (c_X8_product l D cs ad (setB M (lN (bnS wt U S H k).1) (lN (bnS wt U S H k).2.1) (tel (bnS wt U S H k).2.2)) 50 50 (by omega) (by omega)) (tt_V ml_X8_60 im_X8_product se_X8_product in_X8 co_X8_product) ⟨rfl, rfl⟩ ⟨rfl, by decide, by decide, by decide⟩ ⟨Nat.le_of_ble_eq_true rfl, Nat.le_of_ble_eq_true rfl⟩ (by decide) rfl rfl rfl rfl rfl (Nat.le_of_ble_eq_true rfl) dX8_layBound_46 ?_
          refine r_topi (w := (dotz (M.1 136) 50 50)) rfl ?_
          refine r_topi (w := nI H) (hB.2.2.2.1) ?_
          refine r_i2l C dX8_layBound_49 ?_
          refine r_topl (w := lN H) (nI_l (by omega)) ?_
          refine r_lmul C dX8_layBound_50 ?_
          refine r_topl (w := lN ((wt k) * H)) (lN_mul _ _) ?_
          refine r_aload_n C dX8_layBound_51 rfl 1 rfl ?_
          refine r_iload_n C dX8_layBound_52 rfl 0 rfl ?_
          refine r_pcallS_i (nA := 1) C (Nat.le_of_ble_eq_true rfl) [.int (nI k)] (c_X8_labelAt l D cs ad (setB M (lN (bnS wt U S H k).1) (lN (bnS wt U S H k).2.1) (tel (bnS wt U S H k).2.2)) k ) (tt_S ml_X8_56 st_X8_labelAt in_X8 co_X8_labelAt) ⟨rfl, rfl⟩ ⟨rfl, by decide, by decide, by decide⟩ ⟨Nat.le_of_ble_eq_true rfl, Nat.le_of_ble_eq_true rfl⟩ rfl rfl (Nat.le_of_ble_eq_true rfl) dX8_layBound_53 ?_
          refine r_topi (w := nI (18 + 4 * k)) rfl ?_
          refine r_iload_n C dX8_layBound_56 rfl 0 rfl ?_
          refine r_pcallS_i (nA := 1) C (Nat.le_of_ble_eq_true rfl) [.int (nI k)] (c_X8_labelAt l D cs ad (setB M (lN (bnS wt U S H k).1) (lN (bnS wt U S H k).2.1) (tel (bnS wt U S H k).2.2)) k ) (tt_S ml_X8_56 st_X8_labelAt in_X8 co_X8_labelAt) ⟨rfl, rfl⟩ ⟨rfl, by decide, by decide, by decide⟩ ⟨Nat.le_of_ble_eq_true rfl, Nat.le_of_ble_eq_true rfl⟩ rfl rfl (Nat.le_of_ble_eq_true rfl) dX8_layBound_57 ?_
          refine r_topi (w := nI (18 + 4 * k)) rfl ?_
          refine r_pcallV_i (nA := 2) C (Nat.le_of_ble_eq_true rfl) [.int (nI (18 + 4 * k)), .int (nI (18 + 4 * k))] (c_X8_product l D cs ad (setB M (lN (bnS wt U S H k).1) (lN (bnS wt U S H k).2.1) (tel (bnS wt U S H k).2.2)) (18 + 4 * k) (18 + 4 * k) (by omega) (by omega)) (tt_V ml_X8_60 im_X8_product se_X8_product in_X8 co_X8_product) ⟨rfl, rfl⟩ ⟨rfl, by decide, by decide, by decide⟩ ⟨Nat.le_of_ble_eq_true rfl, Nat.le_of_ble_eq_true rfl⟩ (by decide) rfl rfl rfl rfl rfl (Nat.le_of_ble_eq_true rfl) dX8_layBound_60 ?_
          refine r_topi (w := (dotz (M.1 136) (18 + 4 * k) (18 + 4 * k))) rfl ?_
          refine r_topi (w := nI (U k)) ((hB.2.1 k (by omega)).1) ?_
          refine r_i2l C dX8_layBound_63 ?_
          refine r_topl (w := lN (U k)) (nI_l (by omega)) ?_
          refine r_lmul C dX8_layBound_64 ?_
          refine r_topl (w := lN (((wt k) * H) * (U k))) (lN_mul _ _) ?_
          refine r_lstore_n C [(2, .long (lN (((wt k) * H) * (U k)))), (1, .int (nI k)), (0, .ref (ad 135))] dX8_layBound_65 rfl (by decide) rfl ?_
          refine r_aload_n C dX8_layBound_66 rfl 2 rfl ?_
          refine r_iload_n C dX8_layBound_67 rfl 1 rfl ?_
          refine r_pcallV_i (nA := 1) C (Nat.le_of_ble_eq_true rfl) [.int (nI k)] (c_X8_byHandle l D cs ad (setB M (lN (bnS wt U S H k).1) (lN (bnS wt U S H k).2.1) (tel (bnS wt U S H k).2.2)) k (by omega)) (tt_V ml_X8_73 im_X8_byHandle se_X8_byHandle in_X8 co_X8_byHandle) ⟨rfl, rfl⟩ ⟨rfl, by decide, by decide, by decide⟩ ⟨Nat.le_of_ble_eq_true rfl, Nat.le_of_ble_eq_true rfl⟩ (by decide) rfl rfl rfl rfl rfl (Nat.le_of_ble_eq_true rfl) dX8_layBound_68 ?_
          refine r_topi (w := (dotz (M.1 136) 50 (18 + 4 * k))) rfl ?_
          refine r_i2l C dX8_layBound_71 ?_
          refine r_aload_n C dX8_layBound_72 rfl 2 rfl ?_
          refine r_iload_n C dX8_layBound_73 rfl 1 rfl ?_
          refine r_pcallV_i (nA := 1) C (Nat.le_of_ble_eq_true rfl) [.int (nI k)] (c_X8_byHandle l D cs ad (setB M (lN (bnS wt U S H k).1) (lN (bnS wt U S H k).2.1) (tel (bnS wt U S H k).2.2)) k (by omega)) (tt_V ml_X8_73 im_X8_byHandle se_X8_byHandle in_X8 co_X8_byHandle) ⟨rfl, rfl⟩ ⟨rfl, by decide, by decide, by decide⟩ ⟨Nat.le_of_ble_eq_true rfl, Nat.le_of_ble_eq_true rfl⟩ (by decide) rfl rfl rfl rfl rfl (Nat.le_of_ble_eq_true rfl) dX8_layBound_74 ?_
          refine r_topi (w := (dotz (M.1 136) 50 (18 + 4 * k))) rfl ?_
          refine r_i2l C dX8_layBound_77 ?_
          refine r_lmul C dX8_layBound_78 ?_
          refine r_topl (w := lN (S k)) ((hB.2.2.1 k (by omega)).1) ?_
          refine r_lstore C [(4, .long (lN (S k))), (2, .long (lN (((wt k) * H) * (U k)))), (1, .int (nI k)), (0, .ref (ad 135))] dX8_layBound_79 (by decide) rfl ?_
          refine r_aload_n C dX8_layBound_81 rfl 3 rfl ?_
          refine r_get C (Cn := RX8) (T := TX8) (N := 18) (id := 135) (by decide) inw_X8 rfl rfl 10 (by decide) rfl fl_X8_90 rfl dX8_layBound_82 ?_
          refine r_topi (w := (tel (bnS wt U S H k).2.2)) (rfl) ?_
          refine r_iconst C ((-1)) dX8_layBound_85 (by decide) ?_
          refine r_icmp_eq C 106 dX8_layBound_86 (by decide) (fun h86 => ?_) (fun h86 => ?_)
          ·
            refine r_aload_n C dX8_layBound_106 rfl 3 rfl ?_
            refine r_lload_n C dX8_layBound_107 rfl 1 rfl ?_
            refine r_put C (M2 := (mJ (setB M (lN (bnS wt U S H k).1) (lN (bnS wt U S H k).2.1) (tel (bnS wt U S H k).2.2)) 135 8 (lN (((wt k) * H) * (U k))))) (Cn := RX8) (T := TX8) (N := 18) (id := 135) (by decide) inw_X8 tyX8_ok nmX8 rfl rfl 8 (by decide) rfl fl_X8_83 rfl rfl (rfl) (Nat.le_of_ble_eq_true rfl) (fun j hj => ⟨rfl, mJ_ne _ hj⟩) rfl dX8_layBound_108 ?_
            refine r_aload_n C dX8_layBound_111 rfl 3 rfl ?_
            refine r_lload C dX8_layBound_112 0 rfl ?_
            refine r_put C (M2 := (mJ (mJ (setB M (lN (bnS wt U S H k).1) (lN (bnS wt U S H k).2.1) (tel (bnS wt U S H k).2.2)) 135 8 (lN (((wt k) * H) * (U k)))) 135 9 (lN (S k)))) (Cn := RX8) (T := TX8) (N := 18) (id := 135) (by decide) inw_X8 tyX8_ok nmX8 rfl rfl 9 (by decide) rfl fl_X8_87 rfl rfl (rfl) (Nat.le_of_ble_eq_true rfl) (fun j hj => ⟨rfl, mJ_ne _ hj⟩) rfl dX8_layBound_114 ?_
            refine r_aload_n C dX8_layBound_117 rfl 3 rfl ?_
            refine r_iload_n C dX8_layBound_118 rfl 2 rfl ?_
            refine r_put C (M2 := (mI (mJ (mJ (setB M (lN (bnS wt U S H k).1) (lN (bnS wt U S H k).2.1) (tel (bnS wt U S H k).2.2)) 135 8 (lN (((wt k) * H) * (U k)))) 135 9 (lN (S k))) 135 10 (nI k))) (Cn := RX8) (T := TX8) (N := 18) (id := 135) (by decide) inw_X8 tyX8_ok nmX8 rfl rfl 10 (by decide) rfl fl_X8_90 rfl rfl (rfl) (Nat.le_of_ble_eq_true rfl) (fun j hj => ⟨mI_ne _ hj, rfl⟩) rfl dX8_layBound_119 ?_
            refine r_iinc C (nI (k + 1)) [(1, .int (nI (k + 1))), (4, .long (lN (S k))), (2, .long (lN (((wt k) * H) * (U k)))), (0, .ref (ad 135))] dX8_layBound_122 (j := 2) rfl (inc_n k 1) (by decide) rfl ?_
            refine r_goto C 17 dX8_layBound_125 (by decide) ?_
            refine r_lv (lv2 := [(1, .int (nI (k + 1))), (0, .ref (ad 135))]) [0, 3] rfl ?_
            have eb : bnS wt U S H (k + 1) = (wt k * H * U k, S k, k + 1) := by
              unfold bnS
              rw [if_pos]
              first
              | exact ⟨by omega, Or.inl ((tel_0 (by omega)).mp h86)⟩
              | exact ⟨by omega, Or.inr (by omega)⟩
            refine r_mem (M2 := (setB M (lN (bnS wt U S H (k + 1)).1) (lN (bnS wt U S H (k + 1)).2.1) (tel (bnS wt U S H (k + 1)).2.2))) (by rw [setB_ss, eb]; rfl) ?_
            exact ih (k + 1) (by omega) (by omega)
          ·
            refine r_lload_n C dX8_layBound_89 rfl 1 rfl ?_
            refine r_aload_n C dX8_layBound_90 rfl 3 rfl ?_
            refine r_get C (Cn := RX8) (T := TX8) (N := 18) (id := 135) (by decide) inw_X8 rfl rfl 9 (by decide) rfl fl_X8_87 rfl dX8_layBound_91 ?_
            refine r_topl (w := lN ((bnS wt U S H k).2.1)) (rfl) ?_
            refine r_lmul C dX8_layBound_94 ?_
            refine r_topl (w := lN ((((wt k) * H) * (U k)) * ((bnS wt U S H k).2.1))) (lN_mul _ _) ?_
            refine r_aload_n C dX8_layBound_95 rfl 3 rfl ?_
            refine r_get C (Cn := RX8) (T := TX8) (N := 18) (id := 135) (by decide) inw_X8 rfl rfl 8 (by decide) rfl fl_X8_83 rfl dX8_layBound_96 ?_
            refine r_topl (w := lN ((bnS wt U S H k).1)) (rfl) ?_
            refine r_lload C dX8_layBound_99 0 rfl ?_
            refine r_lmul C dX8_layBound_101 ?_
            refine r_topl (w := lN (((bnS wt U S H k).1) * (S k))) (lN_mul _ _) ?_
            refine r_lcmp C dX8_layBound_102 ?_
            refine r_if_le C 122 dX8_layBound_103 (by decide) (fun h103 => ?_) (fun h103 => ?_)
            ·
              rw [lgcN_le (by omega) (by omega)] at h103
              refine r_iinc C (nI (k + 1)) [(1, .int (nI (k + 1))), (4, .long (lN (S k))), (2, .long (lN (((wt k) * H) * (U k)))), (0, .ref (ad 135))] dX8_layBound_122 (j := 2) rfl (inc_n k 1) (by decide) rfl ?_
              refine r_goto C 17 dX8_layBound_125 (by decide) ?_
              refine r_lv (lv2 := [(1, .int (nI (k + 1))), (0, .ref (ad 135))]) [0, 3] rfl ?_
              have eb : bnS wt U S H (k + 1) = bnS wt U S H k := by
                show (if _ then _ else _) = _
                rw [if_neg]
                rintro ⟨e1, e2 | e2⟩
                · first | omega | exact h86 ((tel_0 (by omega)).mpr e2)
                · omega
              refine r_mem (M2 := (setB M (lN (bnS wt U S H (k + 1)).1) (lN (bnS wt U S H (k + 1)).2.1) (tel (bnS wt U S H (k + 1)).2.2))) (by rw [eb]) ?_
              exact ih (k + 1) (by omega) (by omega)
            ·
              rw [lgcN_le (by omega) (by omega)] at h103
              refine r_aload_n C dX8_layBound_106 rfl 3 rfl ?_
              refine r_lload_n C dX8_layBound_107 rfl 1 rfl ?_
              refine r_put C (M2 := (mJ (setB M (lN (bnS wt U S H k).1) (lN (bnS wt U S H k).2.1) (tel (bnS wt U S H k).2.2)) 135 8 (lN (((wt k) * H) * (U k))))) (Cn := RX8) (T := TX8) (N := 18) (id := 135) (by decide) inw_X8 tyX8_ok nmX8 rfl rfl 8 (by decide) rfl fl_X8_83 rfl rfl (rfl) (Nat.le_of_ble_eq_true rfl) (fun j hj => ⟨rfl, mJ_ne _ hj⟩) rfl dX8_layBound_108 ?_
              refine r_aload_n C dX8_layBound_111 rfl 3 rfl ?_
              refine r_lload C dX8_layBound_112 0 rfl ?_
              refine r_put C (M2 := (mJ (mJ (setB M (lN (bnS wt U S H k).1) (lN (bnS wt U S H k).2.1) (tel (bnS wt U S H k).2.2)) 135 8 (lN (((wt k) * H) * (U k)))) 135 9 (lN (S k)))) (Cn := RX8) (T := TX8) (N := 18) (id := 135) (by decide) inw_X8 tyX8_ok nmX8 rfl rfl 9 (by decide) rfl fl_X8_87 rfl rfl (rfl) (Nat.le_of_ble_eq_true rfl) (fun j hj => ⟨rfl, mJ_ne _ hj⟩) rfl dX8_layBound_114 ?_
              refine r_aload_n C dX8_layBound_117 rfl 3 rfl ?_
              refine r_iload_n C dX8_layBound_118 rfl 2 rfl ?_
              refine r_put C (M2 := (mI (mJ (mJ (setB M (lN (bnS wt U S H k).1) (lN (bnS wt U S H k).2.1) (tel (bnS wt U S H k).2.2)) 135 8 (lN (((wt k) * H) * (U k)))) 135 9 (lN (S k))) 135 10 (nI k))) (Cn := RX8) (T := TX8) (N := 18) (id := 135) (by decide) inw_X8 tyX8_ok nmX8 rfl rfl 10 (by decide) rfl fl_X8_90 rfl rfl (rfl) (Nat.le_of_ble_eq_true rfl) (fun j hj => ⟨mI_ne _ hj, rfl⟩) rfl dX8_layBound_119 ?_
              refine r_iinc C (nI (k + 1)) [(1, .int (nI (k + 1))), (4, .long (lN (S k))), (2, .long (lN (((wt k) * H) * (U k)))), (0, .ref (ad 135))] dX8_layBound_122 (j := 2) rfl (inc_n k 1) (by decide) rfl ?_
              refine r_goto C 17 dX8_layBound_125 (by decide) ?_
              refine r_lv (lv2 := [(1, .int (nI (k + 1))), (0, .ref (ad 135))]) [0, 3] rfl ?_
              have eb : bnS wt U S H (k + 1) = (wt k * H * U k, S k, k + 1) := by
                unfold bnS
                rw [if_pos]
                first
                | exact ⟨by omega, Or.inl ((tel_0 (by omega)).mp h86)⟩
                | exact ⟨by omega, Or.inr (by omega)⟩
              refine r_mem (M2 := (setB M (lN (bnS wt U S H (k + 1)).1) (lN (bnS wt U S H (k + 1)).2.1) (tel (bnS wt U S H (k + 1)).2.2))) (by rw [setB_ss, eb]; rfl) ?_
              exact ih (k + 1) (by omega) (by omega)
  refine r_lv (lv2 := [(1, .int (nI 0)), (0, .ref (ad 135))]) [0, 1] rfl ?_
  refine r_mem (M2 := (setB M (lN (bnS wt U S H 0).1) (lN (bnS wt U S H 0).2.1) (tel (bnS wt U S H 0).2.2))) (rfl) ?_
  exact Lp (n + 1) 0 (by omega) (by omega)
