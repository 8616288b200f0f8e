/-! ===== the reference's texts, snapshots, products (written by wip/whole/gen/model5.py) ===== -/
theorem inc_3 (j : Nat) : nI (3 * j) + Int32.ofInt 3 = nI (3 * (j + 1)) := inc_n (3 * j) 3
/-- one row of a product's vertices: the mask of the vertex k below i -/
def pjB (z y : Nat → Int32) (n2 k i : Nat) : Bool := bt (z (10 + (k / n2))) (i / n2) || bt (y (10 + k % n2)) (i % n2)
def pmI (z y : Nat → Int32) (n2 k : Nat) : Nat → Int32
  | 0 => nI 0
  | i + 1 => pmI z y n2 k i ||| (if pjB z y n2 k i = true then s1 i else nI 0)
def pwI (z y : Nat → Int32) (n2 k : Nat) : Int32 := z (2 + (k / n2)) * y (2 + k % n2)
def plI (z y : Nat → Int32) (n2 d2 k p : Nat) : Int32 := z (18 + 4 * (k / n2) + (p / d2)) * y (18 + 4 * (k % n2) + p % d2)
def phI (z y : Nat → Int32) (d2 p : Nat) : Int32 := z (50 + (p / d2)) * y (50 + p % d2)
def wpB (z y : Nat → Int32) (n2 : Nat) : Nat → Bool
  | 0 => true
  | k + 1 => wpB z y n2 k && !decide (nI 9 < pwI z y n2 k)
def fpB (z y : Nat → Int32) (n2 d2 k : Nat) (b : Bool) : Nat → Bool
  | 0 => b
  | p + 1 => fpB z y n2 d2 k b p && wit (plI z y n2 d2 k p) (-9) (nI 9)
def fkB (z y : Nat → Int32) (n2 d2 dd : Nat) : Nat → Bool
  | 0 => true
  | k + 1 => fpB z y n2 d2 k (fkB z y n2 d2 dd k) dd
def fhB (z y : Nat → Int32) (d2 : Nat) (b : Bool) : Nat → Bool
  | 0 => b
  | p + 1 => fhB z y d2 b p && wit (phI z y d2 p) (-9) (nI 9)
/-- the product's row while it is laid: kw weights, kn masks (and ki bits of the next), kl labels (and kp numbers of the next), kh numbers of the handle -/
def mdG (b z y : Nat → Int32) (N dd n2 d2 kw kn ki kl kp kh : Nat) : Nat → Int32 := fun j =>
  if j = 0 then nI N else if j = 1 then nI dd
  else if 2 ≤ j ∧ j < 2 + kw then pwI z y n2 (j - 2)
  else if 10 ≤ j ∧ j < 10 + kn then pmI z y n2 (j - 10) N
  else if j = 10 + kn ∧ 0 < ki then pmI z y n2 (j - 10) ki
  else if 18 ≤ j ∧ j < 50 ∧ (((j - 18) / 4 < kl ∧ (j - 18) % 4 < dd) ∨ ((j - 18) / 4 = kl ∧ (j - 18) % 4 < kp)) then plI z y n2 d2 ((j - 18) / 4) ((j - 18) % 4)
  else if 50 ≤ j ∧ j < 50 + kh then phI z y d2 (j - 50)
  else b j
section MDG
variable {b z y : Nat → Int32} {N dd n2 d2 : Nat}
theorem mdG_0 : upd (upd b 0 (nI N)) 1 (nI dd) = mdG b z y N dd n2 d2 0 0 0 0 0 0 := by
  funext j; simp only [mdG, upd]; repeat' split
  all_goals first | rfl | (exfalso; omega)
theorem mdG_w {k : Nat} (hk : k < 8) : upd (mdG b z y N dd n2 d2 k k 0 k 0 0) (2 + k) (pwI z y n2 k) = mdG b z y N dd n2 d2 (k + 1) k 0 k 0 0 := by
  funext j; simp only [mdG, upd]; repeat' split
  all_goals first | rfl | (exfalso; omega) | (subst_vars; congr 1; omega)
theorem mdG_at {k i : Nat} (hb : ∀ j, j < 55 → b j = nI 0) (hk : k < 8) : mdG b z y N dd n2 d2 (k + 1) k i k 0 0 (10 + k) = pmI z y n2 k i := by
  unfold mdG
  rw [if_neg (by omega), if_neg (by omega), if_neg (by omega), if_neg (by omega)]
  have e : 10 + k - 10 = k := by omega
  cases i with
  | zero => rw [if_neg (by omega), if_neg (by omega), if_neg (by omega), hb _ (by omega)]; rfl
  | succ i => rw [if_pos (by omega), e]
theorem mdG_n {k i : Nat} (hk : k < 8) : upd (mdG b z y N dd n2 d2 (k + 1) k i k 0 0) (10 + k) (pmI z y n2 k (i + 1)) = mdG b z y N dd n2 d2 (k + 1) k (i + 1) k 0 0 := by
  funext j; simp only [mdG, upd]; repeat' split
  all_goals first | rfl | (exfalso; omega) | (subst_vars; congr 1; omega)
theorem mdG_N {k : Nat} (hk : k < 8) (hN : 0 < N) : mdG b z y N dd n2 d2 (k + 1) k N k 0 0 = mdG b z y N dd n2 d2 (k + 1) (k + 1) 0 k 0 0 := by
  funext j; simp only [mdG]; repeat' split
  all_goals first | rfl | (exfalso; omega)
theorem mdG_l {k p : Nat} (hk : k < 8) (hp : p < 4) : upd (mdG b z y N dd n2 d2 (k + 1) (k + 1) 0 k p 0) (18 + 4 * k + p) (plI z y n2 d2 k p) = mdG b z y N dd n2 d2 (k + 1) (k + 1) 0 k (p + 1) 0 := by
  funext j; simp only [mdG, upd]; repeat' split
  all_goals first | rfl | (exfalso; omega) | (subst_vars; congr 1 <;> omega)
theorem mdG_L {k : Nat} (hd : dd ≤ 4) : mdG b z y N dd n2 d2 (k + 1) (k + 1) 0 k dd 0 = mdG b z y N dd n2 d2 (k + 1) (k + 1) 0 (k + 1) 0 0 := by
  funext j; simp only [mdG]; repeat' split
  all_goals first | rfl | (exfalso; omega)
theorem mdG_h {k p : Nat} (hk : k ≤ 8) (hp : p < 4) : upd (mdG b z y N dd n2 d2 k k 0 k 0 p) (50 + p) (phI z y d2 p) = mdG b z y N dd n2 d2 k k 0 k 0 (p + 1) := by
  funext j; simp only [mdG, upd]; repeat' split
  all_goals first | rfl | (exfalso; omega) | (subst_vars; congr 1; omega)
theorem mdG_wat {k : Nat} : mdG b z y N dd n2 d2 (k + 1) k 0 k 0 0 (2 + k) = pwI z y n2 k := by
  unfold mdG; rw [if_neg (by omega), if_neg (by omega), if_pos (by omega)]; congr 1; omega
theorem mdG_hat {k p : Nat} (hk : k ≤ 8) (hp : p < 4) : mdG b z y N dd n2 d2 k k 0 k 0 (p + 1) (50 + p) = phI z y d2 p := by
  unfold mdG; rw [if_neg (by omega), if_neg (by omega), if_neg (by omega), if_neg (by omega), if_neg (by omega), if_neg (by omega), if_pos (by omega)]; congr 1; omega
end MDG
def emZ (b : Nat → Int32) : Nat → Int32 := emA b 55
theorem emZ_z {b : Nat → Int32} : ∀ j, j < 55 → emZ b j = nI 0 := fun j h => by unfold emZ emA; rw [if_pos h]
/-- the whole product's row -/
def mdR (b z y : Nat → Int32) (N dd n2 d2 : Nat) : Nat → Int32 := mdG (emZ b) z y N dd n2 d2 N N 0 N 0 dd
def lpr (z y : Nat → Int32) (N dd n2 d2 : Nat) : Int32 := if wpB z y n2 N = true then (if fhB z y d2 (fkB z y n2 d2 dd N) dd = true then nI 0 else nI 4) else nI 3
set_option maxRecDepth 100000 in
set_option maxHeartbeats 4000000 in
theorem c_X8_take (l : Launch) (D : va_G) (cs : Nat → ClassId) (ad : Nat → Nat) (M : Mm) (n : Nat) (hn : M.1 136 0 = nI n) (hn8 : n ≤ 8) (q : Nat) (hq : q ≤ 1) : ∀ sz : Nat, Met l yX8_take (.code yX8_take cX8_take 3 (some .int) :: TT) { frames := 2, cells := 0, slots := 0, locals := 42 } (va_Pc [.ref (ad 135), .int (nI q)] (fun U9 => U9.heap.size = sz ∧ wB D cs ad (fA ad sz) M U9)) (va_Qi (fun r M2 => r = nI n ∧ M2 = mA (mI (mI M 135 7 (nI 0)) 139 q (nI 1)) 138 (va_cpy (M.1 136) (M.1 138) 0 (55 * q) 55)) (wB D cs ad (fA ad sz)) (fA ad sz)) 0 0 (fA ad sz) := by
  have w1 : wit (nI q) (nI 0) (nI 1) = true := (wit_iff (by omega) (by omega) (by omega)).mpr ⟨by omega, hq⟩
  refine st_I (by decide) (Nat.le_of_ble_eq_true rfl) (fun κ C E => ?_)
  refine r_lv (lv2 := [(0, .ref (ad 135)), (1, .int (nI q))]) [0, 1] rfl ?_
  refine r_aload_n C dX8_take_0 rfl 0 rfl ?_
  refine r_iload_n C dX8_take_1 rfl 1 rfl ?_
  refine r_pcallS_i (nA := 1) C (Nat.le_of_ble_eq_true rfl) [.int (nI q)] (c_X8_isSnapshot l D cs ad M (nI q) ) (tt_S ml_X8_135 st_X8_isSnapshot in_X8 co_X8_isSnapshot) ⟨rfl, rfl⟩ ⟨rfl, by decide, by decide, by decide⟩ ⟨Nat.le_of_ble_eq_true rfl, Nat.le_of_ble_eq_true rfl⟩ rfl rfl (Nat.le_of_ble_eq_true rfl) dX8_take_2 ?_
  refine r_ifB_eq C 12 dX8_take_5 (by decide) (fun h5 => ?_) (fun h5 => ?_)
  · exact absurd (h5.symm.trans w1) (by decide)
  ·
    refine r_iconst C (nI 0) dX8_take_8 (by decide) ?_
    refine r_goto C 13 dX8_take_9 (by decide) ?_
    refine r_put C (M2 := (mI M 135 7 (nI 0))) (Cn := RX8) (T := TX8) (N := 18) (id := 135) (by decide) inw_X8 tyX8_ok nmX8 rfl rfl 7 (by decide) rfl fl_X8_41 rfl rfl (rfl) (Nat.le_of_ble_eq_true rfl) (fun j hj => ⟨mI_ne _ hj, rfl⟩) rfl dX8_take_13 ?_
    refine r_aload_n C dX8_take_16 rfl 0 rfl ?_
    refine r_get C (Cn := RX8) (T := TX8) (N := 18) (id := 135) (by decide) inw_X8 rfl rfl 7 (by decide) rfl fl_X8_41 rfl dX8_take_17 ?_
    refine r_topi (w := nI 0) (rfl) ?_
    refine r_if_le C 25 dX8_take_20 (by decide) (fun h20 => ?_) (fun h20 => ?_)
    ·
      refine r_aload_n C dX8_take_25 rfl 0 rfl ?_
      refine r_get C (Cn := RX8) (T := TX8) (N := 18) (id := 135) (by decide) inw_X8 rfl rfl 4 (by decide) rfl fl_X8_19 rfl dX8_take_26 ?_
      refine r_iload_n C dX8_take_29 rfl 1 rfl ?_
      refine r_iconst C (nI 1) dX8_take_30 (by decide) ?_
      refine r_iast C (id := 139) (n := 2) (a := q) (by decide) (fun _ => rfl) (by omega) (by decide) dX8_take_31 ?_
      refine r_iconst C (nI 0) dX8_take_32 (by decide) ?_
      refine r_istore_n C [(2, .int (nI 0)), (0, .ref (ad 135)), (1, .int (nI q))] dX8_take_33 rfl (by decide) rfl ?_
      have Lp : ∀ (f k : Nat), 55 + 1 ≤ k + f → k ≤ 55 → VV l D cs ad 3 κ 0 (mA (mI (mI M 135 7 (nI 0)) 139 q (nI 1)) 138 (va_cpy (M.1 136) (M.1 138) 0 (55 * q) k)) 34 [(2, .int (nI k)), (0, .ref (ad 135)), (1, .int (nI q))] [] := by
        intro f
        induction f with
        | zero => intro k hk1 hk2; exact absurd hk1 (by omega)
        | succ f ih =>
          intro k hk1 hk2
          refine r_iload_n C dX8_take_34 rfl 0 rfl ?_
          refine r_bipush C (nI 55) dX8_take_35 (by decide) ?_
          refine r_icmpN_ge C 63 dX8_take_37 (by decide) (by omega) (by omega) (fun h37 => ?_) (fun h37 => ?_)
          ·
            have hk9 : 55 = k := by omega
            subst hk9
            refine r_aload_n C dX8_take_63 rfl 1 rfl ?_
            refine r_get C (Cn := RX8) (T := TX8) (N := 18) (id := 135) (by decide) inw_X8 rfl rfl 0 (by decide) rfl fl_X8_7 rfl dX8_take_64 ?_
            refine r_iconst C (nI 0) dX8_take_67 (by decide) ?_
            refine r_iald C (id := 136) (n := 55) (a := 0) (by decide) rfl (by decide) (by decide) dX8_take_68 ?_
            refine r_topi (w := (M.1 136 0)) (rfl) ?_
            refine r_topi hn ?_
            exact E 0 _ _ _ _ (Nat.le_of_ble_eq_true rfl) dX8_take_69 (⟨rfl, rfl⟩)
          ·
            refine r_aload_n C dX8_take_40 rfl 1 rfl ?_
            refine r_get C (Cn := RX8) (T := TX8) (N := 18) (id := 135) (by decide) inw_X8 rfl rfl 3 (by decide) rfl fl_X8_16 rfl dX8_take_41 ?_
            refine r_bipush C (nI 55) dX8_take_44 (by decide) ?_
            refine r_iload_n C dX8_take_46 rfl 2 rfl ?_
            refine r_imul C dX8_take_47 ?_
            refine r_topi (pk_mul 55 q) ?_
            refine r_iload_n C dX8_take_48 rfl 0 rfl ?_
            refine r_iadd C dX8_take_49 ?_
            refine r_topi (nI_add (55 * q) k) ?_
            refine r_aload_n C dX8_take_50 rfl 1 rfl ?_
            refine r_get C (Cn := RX8) (T := TX8) (N := 18) (id := 135) (by decide) inw_X8 rfl rfl 0 (by decide) rfl fl_X8_7 rfl dX8_take_51 ?_
            refine r_iload_n C dX8_take_54 rfl 0 rfl ?_
            refine r_iald C (id := 136) (n := 55) (a := k) (by decide) rfl (by omega) (by decide) dX8_take_55 ?_
            refine r_topi (w := (M.1 136 k)) (rfl) ?_
            refine r_iast C (id := 138) (n := 110) (a := (55 * q) + k) (by decide) (fun _ => rfl) (by omega) (by decide) dX8_take_56 ?_
            refine r_iinc C (nI (k + 1)) [(2, .int (nI (k + 1))), (0, .ref (ad 135)), (1, .int (nI q))] dX8_take_57 (j := 0) rfl (inc_n k 1) (by decide) rfl ?_
            refine r_goto C 34 dX8_take_60 (by decide) ?_
            refine r_lv (lv2 := [(2, .int (nI (k + 1))), (0, .ref (ad 135)), (1, .int (nI q))]) [0, 1, 2] rfl ?_
            refine r_mem (M2 := (mA (mI (mI M 135 7 (nI 0)) 139 q (nI 1)) 138 (va_cpy (M.1 136) (M.1 138) 0 (55 * q) (k + 1)))) (by rw [mIA, cpy_s]) ?_
            exact ih (k + 1) (by omega) (by omega)
      refine r_lv (lv2 := [(2, .int (nI 0)), (0, .ref (ad 135)), (1, .int (nI q))]) [0, 1, 2] rfl ?_
      refine r_mem (M2 := (mA (mI (mI M 135 7 (nI 0)) 139 q (nI 1)) 138 (va_cpy (M.1 136) (M.1 138) 0 (55 * q) 0))) (mA_id (cpy_0 _ _ _ _)) ?_
      exact Lp (55 + 1) 0 (by omega) (by omega)
    · exact absurd h20 (by decide)
set_option maxRecDepth 100000 in
set_option maxHeartbeats 4000000 in
theorem c_X8_takeX (l : Launch) (D : va_G) (cs : Nat → ClassId) (ad : Nat → Nat) (M : Mm) (x : Int32) (hbad : wit x (nI 0) (nI 1) = false) : ∀ sz : Nat, Met l yX8_take (.code yX8_take cX8_take 3 (some .int) :: TT) { frames := 2, cells := 0, slots := 0, locals := 42 } (va_Pc [.ref (ad 135), .int x] (fun U9 => U9.heap.size = sz ∧ wB D cs ad (fA ad sz) M U9)) (va_Qi (fun r M2 => r = nI 0 ∧ M2 = mI M 135 7 (nI 1)) (wB D cs ad (fA ad sz)) (fA ad sz)) 0 0 (fA ad sz) := by
  refine st_I (by decide) (Nat.le_of_ble_eq_true rfl) (fun κ C E => ?_)
  refine r_lv (lv2 := [(0, .ref (ad 135)), (1, .int x)]) [0, 1] rfl ?_
  refine r_aload_n C dX8_take_0 rfl 0 rfl ?_
  refine r_iload_n C dX8_take_1 rfl 1 rfl ?_
  refine r_pcallS_i (nA := 1) C (Nat.le_of_ble_eq_true rfl) [.int x] (c_X8_isSnapshot l D cs ad M x ) (tt_S ml_X8_135 st_X8_isSnapshot in_X8 co_X8_isSnapshot) ⟨rfl, rfl⟩ ⟨rfl, by decide, by decide, by decide⟩ ⟨Nat.le_of_ble_eq_true rfl, Nat.le_of_ble_eq_true rfl⟩ rfl rfl (Nat.le_of_ble_eq_true rfl) dX8_take_2 ?_
  refine r_ifB_eq C 12 dX8_take_5 (by decide) (fun h5 => ?_) (fun h5 => ?_)
  ·
    refine r_iconst C (nI 1) dX8_take_12 (by decide) ?_
    refine r_put C (M2 := (mI M 135 7 (nI 1))) (Cn := RX8) (T := TX8) (N := 18) (id := 135) (by decide) inw_X8 tyX8_ok nmX8 rfl rfl 7 (by decide) rfl fl_X8_41 rfl rfl (rfl) (Nat.le_of_ble_eq_true rfl) (fun j hj => ⟨mI_ne _ hj, rfl⟩) rfl dX8_take_13 ?_
    refine r_aload_n C dX8_take_16 rfl 0 rfl ?_
    refine r_get C (Cn := RX8) (T := TX8) (N := 18) (id := 135) (by decide) inw_X8 rfl rfl 7 (by decide) rfl fl_X8_41 rfl dX8_take_17 ?_
    refine r_topi (w := nI 1) (rfl) ?_
    refine r_if_le C 25 dX8_take_20 (by decide) (fun h20 => ?_) (fun h20 => ?_)
    · exact absurd h20 (by decide)
    ·
      refine r_iconst C (nI 0) dX8_take_23 (by decide) ?_
      exact E 0 _ _ _ _ (Nat.le_of_ble_eq_true rfl) dX8_take_24 (⟨rfl, rfl⟩)
  · exact absurd (h5.symm.trans hbad) (by decide)
set_option maxRecDepth 100000 in
set_option maxHeartbeats 4000000 in
theorem c_X8_restore (l : Launch) (D : va_G) (cs : Nat → ClassId) (ad : Nat → Nat) (M : Mm) (s : Nat) (hs : M.1 135 1 = nI s) (hs6 : s ≤ 6) (q n2 : Nat) (hq : q ≤ 1) (ht : M.1 139 q = nI 1) (hn2 : M.1 138 (55 * q) = nI n2) : ∀ sz : Nat, Met l yX8_restore (.code yX8_restore cX8_restore 3 (some .int) :: TT) { frames := 3, cells := 0, slots := 0, locals := 63 } (va_Pc [.ref (ad 135), .int (nI q)] (fun U9 => U9.heap.size = sz ∧ wB D cs ad (fA ad sz) M U9)) (va_Qi (fun r M2 => r = nI n2 ∧ M2 = mA (saveM (mI M 135 7 (nI 0)) s) 136 (ovR (M.1 136) (M.1 138) (55 * q) 54)) (wB D cs ad (fA ad sz)) (fA ad sz)) 0 0 (fA ad sz) := by
  refine st_I (by decide) (Nat.le_of_ble_eq_true rfl) (fun κ C E => ?_)
  refine r_lv (lv2 := [(0, .ref (ad 135)), (1, .int (nI q))]) [0, 1] rfl ?_
  refine r_aload_n C dX8_restore_0 rfl 0 rfl ?_
  refine r_aload_n C dX8_restore_1 rfl 0 rfl ?_
  refine r_iload_n C dX8_restore_2 rfl 1 rfl ?_
  refine r_pcallV_i (nA := 1) C (Nat.le_of_ble_eq_true rfl) [.int (nI q)] (c_X8_refusedT l D cs ad M q (by omega) ht) (tt_V ml_X8_138 im_X8_refusedSnapshot se_X8_refusedSnapshot in_X8 co_X8_refusedSnapshot) ⟨rfl, rfl⟩ ⟨rfl, by decide, by decide, by decide⟩ ⟨Nat.le_of_ble_eq_true rfl, Nat.le_of_ble_eq_true rfl⟩ (by decide) rfl rfl rfl rfl rfl (Nat.le_of_ble_eq_true rfl) dX8_restore_3 ?_
  refine r_put C (M2 := (mI M 135 7 (nI 0))) (Cn := RX8) (T := TX8) (N := 18) (id := 135) (by decide) inw_X8 tyX8_ok nmX8 rfl rfl 7 (by decide) rfl fl_X8_41 rfl rfl (rfl) (Nat.le_of_ble_eq_true rfl) (fun j hj => ⟨mI_ne _ hj, rfl⟩) rfl dX8_restore_6 ?_
  refine r_aload_n C dX8_restore_9 rfl 0 rfl ?_
  refine r_get C (Cn := RX8) (T := TX8) (N := 18) (id := 135) (by decide) inw_X8 rfl rfl 7 (by decide) rfl fl_X8_41 rfl dX8_restore_10 ?_
  refine r_topi (w := nI 0) (rfl) ?_
  refine r_if_le C 18 dX8_restore_13 (by decide) (fun h13 => ?_) (fun h13 => ?_)
  ·
    refine r_aload_n C dX8_restore_18 rfl 0 rfl ?_
    refine r_pcallV_v (nA := 0) C (Nat.le_of_ble_eq_true rfl) [] (c_X8_save l D cs ad (mI M 135 7 (nI 0))  s hs hs6) (tt_V ml_X8_110 im_X8_save se_X8_save in_X8 co_X8_save) ⟨rfl, rfl⟩ ⟨rfl, by decide, by decide, by decide⟩ ⟨Nat.le_of_ble_eq_true rfl, Nat.le_of_ble_eq_true rfl⟩ (by decide) rfl rfl rfl rfl rfl (Nat.le_of_ble_eq_true rfl) dX8_restore_19 ?_
    refine r_iconst C (nI 0) dX8_restore_22 (by decide) ?_
    refine r_istore_n C [(2, .int (nI 0)), (0, .ref (ad 135)), (1, .int (nI q))] dX8_restore_23 rfl (by decide) rfl ?_
    have Lp : ∀ (f k : Nat), 54 + 1 ≤ k + f → k ≤ 54 → VV l D cs ad 3 κ 0 (mA (saveM (mI M 135 7 (nI 0)) s) 136 (ovR (M.1 136) (M.1 138) (55 * q) k)) 24 [(2, .int (nI k)), (0, .ref (ad 135)), (1, .int (nI q))] [] := by
      intro f
      induction f with
      | zero => intro k hk1 hk2; exact absurd hk1 (by omega)
      | succ f ih =>
        intro k hk1 hk2
        refine r_iload_n C dX8_restore_24 rfl 0 rfl ?_
        refine r_bipush C (nI 54) dX8_restore_25 (by decide) ?_
        refine r_icmpN_ge C 48 dX8_restore_27 (by decide) (by omega) (by omega) (fun h27 => ?_) (fun h27 => ?_)
        ·
          have hk9 : 54 = k := by omega
          subst hk9
          refine r_aload_n C dX8_restore_48 rfl 1 rfl ?_
          refine r_get C (Cn := RX8) (T := TX8) (N := 18) (id := 135) (by decide) inw_X8 rfl rfl 0 (by decide) rfl fl_X8_7 rfl dX8_restore_49 ?_
          refine r_iconst C (nI 0) dX8_restore_52 (by decide) ?_
          refine r_iald C (id := 136) (n := 55) (a := 0) (by decide) rfl (by decide) (by decide) dX8_restore_53 ?_
          refine r_topi (w := nI n2) (hn2) ?_
          exact E 0 _ _ _ _ (Nat.le_of_ble_eq_true rfl) dX8_restore_54 (⟨rfl, rfl⟩)
        ·
          refine r_aload_n C dX8_restore_30 rfl 1 rfl ?_
          refine r_get C (Cn := RX8) (T := TX8) (N := 18) (id := 135) (by decide) inw_X8 rfl rfl 0 (by decide) rfl fl_X8_7 rfl dX8_restore_31 ?_
          refine r_iload_n C dX8_restore_34 rfl 0 rfl ?_
          refine r_aload_n C dX8_restore_35 rfl 1 rfl ?_
          refine r_iload_n C dX8_restore_36 rfl 2 rfl ?_
          refine r_iload_n C dX8_restore_37 rfl 0 rfl ?_
          refine r_pcallV_i (nA := 2) C (Nat.le_of_ble_eq_true rfl) [.int (nI q), .int (nI k)] (c_X8_other l D cs ad (mA (saveM (mI M 135 7 (nI 0)) s) 136 (ovR (M.1 136) (M.1 138) (55 * q) k)) q k (by omega) (by omega)) (tt_V ml_X8_129 im_X8_other se_X8_other in_X8 co_X8_other) ⟨rfl, rfl⟩ ⟨rfl, by decide, by decide, by decide⟩ ⟨Nat.le_of_ble_eq_true rfl, Nat.le_of_ble_eq_true rfl⟩ (by decide) rfl rfl rfl rfl rfl (Nat.le_of_ble_eq_true rfl) dX8_restore_38 ?_
          refine r_topi (w := (M.1 138 (55 * q + k))) rfl ?_
          refine r_iast C (id := 136) (n := 55) (a := k) (by decide) (fun _ => rfl) (by omega) (by decide) dX8_restore_41 ?_
          refine r_iinc C (nI (k + 1)) [(2, .int (nI (k + 1))), (0, .ref (ad 135)), (1, .int (nI q))] dX8_restore_42 (j := 0) rfl (inc_n k 1) (by decide) rfl ?_
          refine r_goto C 24 dX8_restore_45 (by decide) ?_
          refine r_lv (lv2 := [(2, .int (nI (k + 1))), (0, .ref (ad 135)), (1, .int (nI q))]) [0, 1, 2] rfl ?_
          refine r_mem (M2 := (mA (saveM (mI M 135 7 (nI 0)) s) 136 (ovR (M.1 136) (M.1 138) (55 * q) (k + 1)))) (by rw [mIA]; exact congrArg _ (ovR_s _ _ _ _)) ?_
          exact ih (k + 1) (by omega) (by omega)
    refine r_lv (lv2 := [(2, .int (nI 0)), (0, .ref (ad 135)), (1, .int (nI q))]) [0, 1, 2] rfl ?_
    refine r_mem (M2 := (mA (saveM (mI M 135 7 (nI 0)) s) 136 (ovR (M.1 136) (M.1 138) (55 * q) 0))) (mA_id (ovR_0 _ _ _)) ?_
    exact Lp (54 + 1) 0 (by omega) (by omega)
  · exact absurd h13 (by decide)
set_option maxRecDepth 100000 in
set_option maxHeartbeats 4000000 in
theorem c_X8_restoreX (l : Launch) (D : va_G) (cs : Nat → ClassId) (ad : Nat → Nat) (M : Mm) (x : Int32) (hbad : wit x (nI 0) (nI 1) = false) : ∀ sz : Nat, Met l yX8_restore (.code yX8_restore cX8_restore 3 (some .int) :: TT) { frames := 3, cells := 0, slots := 0, locals := 63 } (va_Pc [.ref (ad 135), .int x] (fun U9 => U9.heap.size = sz ∧ wB D cs ad (fA ad sz) M U9)) (va_Qi (fun r M2 => r = nI 0 ∧ M2 = mI M 135 7 (nI 1)) (wB D cs ad (fA ad sz)) (fA ad sz)) 0 0 (fA ad sz) := by
  refine st_I (by decide) (Nat.le_of_ble_eq_true rfl) (fun κ C E => ?_)
  refine r_lv (lv2 := [(0, .ref (ad 135)), (1, .int x)]) [0, 1] rfl ?_
  refine r_aload_n C dX8_restore_0 rfl 0 rfl ?_
  refine r_aload_n C dX8_restore_1 rfl 0 rfl ?_
  refine r_iload_n C dX8_restore_2 rfl 1 rfl ?_
  refine r_pcallV_i (nA := 1) C (Nat.le_of_ble_eq_true rfl) [.int x] (c_X8_refusedX l D cs ad M x hbad) (tt_V ml_X8_138 im_X8_refusedSnapshot se_X8_refusedSnapshot in_X8 co_X8_refusedSnapshot) ⟨rfl, rfl⟩ ⟨rfl, by decide, by decide, by decide⟩ ⟨Nat.le_of_ble_eq_true rfl, Nat.le_of_ble_eq_true rfl⟩ (by decide) rfl rfl rfl rfl rfl (Nat.le_of_ble_eq_true rfl) dX8_restore_3 ?_
  refine r_put C (M2 := (mI M 135 7 (nI 1))) (Cn := RX8) (T := TX8) (N := 18) (id := 135) (by decide) inw_X8 tyX8_ok nmX8 rfl rfl 7 (by decide) rfl fl_X8_41 rfl rfl (rfl) (Nat.le_of_ble_eq_true rfl) (fun j hj => ⟨mI_ne _ hj, rfl⟩) rfl dX8_restore_6 ?_
  refine r_aload_n C dX8_restore_9 rfl 0 rfl ?_
  refine r_get C (Cn := RX8) (T := TX8) (N := 18) (id := 135) (by decide) inw_X8 rfl rfl 7 (by decide) rfl fl_X8_41 rfl dX8_restore_10 ?_
  refine r_topi (w := nI 1) (rfl) ?_
  refine r_if_le C 18 dX8_restore_13 (by decide) (fun h13 => ?_) (fun h13 => ?_)
  · exact absurd h13 (by decide)
  ·
    refine r_iconst C (nI 0) dX8_restore_16 (by decide) ?_
    exact E 0 _ _ _ _ (Nat.le_of_ble_eq_true rfl) dX8_restore_17 (⟨rfl, rfl⟩)
set_option maxRecDepth 100000 in
set_option maxHeartbeats 4000000 in
theorem c_X8_multiplyX (l : Launch) (D : va_G) (cs : Nat → ClassId) (ad : Nat → Nat) (M : Mm) (x : Int32) (hbad : wit x (nI 0) (nI 1) = false) : ∀ sz : Nat, Met l yX8_multiply (.code yX8_multiply cX8_multiply 3 (some .int) :: TT) { frames := 3, cells := 0, slots := 0, locals := 63 } (va_Pc [.ref (ad 135), .int x] (fun U9 => U9.heap.size = sz ∧ wB D cs ad (fA ad sz) M U9)) (va_Qi (fun r M2 => r = nI 0 ∧ M2 = mI M 135 7 (nI 1)) (wB D cs ad (fA ad sz)) (fA ad sz)) 0 0 (fA ad sz) := by
  refine st_I (by decide) (Nat.le_of_ble_eq_true rfl) (fun κ C E => ?_)
  refine r_lv (lv2 := [(0, .ref (ad 135)), (1, .int x)]) [0, 1] rfl ?_
  refine r_aload_n C dX8_multiply_0 rfl 0 rfl ?_
  refine r_aload_n C dX8_multiply_1 rfl 0 rfl ?_
  refine r_iload_n C dX8_multiply_2 rfl 1 rfl ?_
  refine r_pcallV_i (nA := 1) C (Nat.le_of_ble_eq_true rfl) [.int x] (c_X8_refusedX l D cs ad M x hbad) (tt_V ml_X8_138 im_X8_refusedSnapshot se_X8_refusedSnapshot in_X8 co_X8_refusedSnapshot) ⟨rfl, rfl⟩ ⟨rfl, by decide, by decide, by decide⟩ ⟨Nat.le_of_ble_eq_true rfl, Nat.le_of_ble_eq_true rfl⟩ (by decide) rfl rfl rfl rfl rfl (Nat.le_of_ble_eq_true rfl) dX8_multiply_3 ?_
  refine r_put C (M2 := (mI M 135 7 (nI 1))) (Cn := RX8) (T := TX8) (N := 18) (id := 135) (by decide) inw_X8 tyX8_ok nmX8 rfl rfl 7 (by decide) rfl fl_X8_41 rfl rfl (rfl) (Nat.le_of_ble_eq_true rfl) (fun j hj => ⟨mI_ne _ hj, rfl⟩) rfl dX8_multiply_6 ?_
  refine r_aload_n C dX8_multiply_9 rfl 0 rfl ?_
  refine r_get C (Cn := RX8) (T := TX8) (N := 18) (id := 135) (by decide) inw_X8 rfl rfl 7 (by decide) rfl fl_X8_41 rfl dX8_multiply_10 ?_
  refine r_topi (w := nI 1) (rfl) ?_
  refine r_if_ne C 33 dX8_multiply_13 (by decide) (fun h13 => ?_) (fun h13 => ?_)
  ·
    refine r_aload_n C dX8_multiply_33 rfl 0 rfl ?_
    refine r_get C (Cn := RX8) (T := TX8) (N := 18) (id := 135) (by decide) inw_X8 rfl rfl 7 (by decide) rfl fl_X8_41 rfl dX8_multiply_34 ?_
    refine r_topi (w := nI 1) (rfl) ?_
    refine r_if_le C 42 dX8_multiply_37 (by decide) (fun h37 => ?_) (fun h37 => ?_)
    · exact absurd h37 (by decide)
    ·
      refine r_iconst C (nI 0) dX8_multiply_40 (by decide) ?_
      exact E 0 _ _ _ _ (Nat.le_of_ble_eq_true rfl) dX8_multiply_41 (⟨rfl, rfl⟩)
  · exact absurd h13 (by decide)
set_option maxRecDepth 100000 in
set_option maxHeartbeats 4000000 in
theorem c_X8_whyNotMultiplyX (l : Launch) (D : va_G) (cs : Nat → ClassId) (ad : Nat → Nat) (M : Mm) (x : Int32) (hbad : wit x (nI 0) (nI 1) = false) : ∀ sz : Nat, Met l yX8_whyNotMultiply (.code yX8_whyNotMultiply cX8_whyNotMultiply 2 (some .int) :: TT) { frames := 3, cells := 0, slots := 0, locals := 63 } (va_Pc [.ref (ad 135), .int x] (fun U9 => U9.heap.size = sz ∧ wB D cs ad (fA ad sz) M U9)) (va_Qi (fun r M2 => r = nI 0 ∧ M2 = mI M 135 7 (nI 1)) (wB D cs ad (fA ad sz)) (fA ad sz)) 0 0 (fA ad sz) := by
  refine st_I (by decide) (Nat.le_of_ble_eq_true rfl) (fun κ C E => ?_)
  refine r_lv (lv2 := [(0, .ref (ad 135)), (1, .int x)]) [0, 1] rfl ?_
  refine r_aload_n C dX8_whyNotMultiply_0 rfl 0 rfl ?_
  refine r_aload_n C dX8_whyNotMultiply_1 rfl 0 rfl ?_
  refine r_iload_n C dX8_whyNotMultiply_2 rfl 1 rfl ?_
  refine r_pcallV_i (nA := 1) C (Nat.le_of_ble_eq_true rfl) [.int x] (c_X8_refusedX l D cs ad M x hbad) (tt_V ml_X8_138 im_X8_refusedSnapshot se_X8_refusedSnapshot in_X8 co_X8_refusedSnapshot) ⟨rfl, rfl⟩ ⟨rfl, by decide, by decide, by decide⟩ ⟨Nat.le_of_ble_eq_true rfl, Nat.le_of_ble_eq_true rfl⟩ (by decide) rfl rfl rfl rfl rfl (Nat.le_of_ble_eq_true rfl) dX8_whyNotMultiply_3 ?_
  refine r_put C (M2 := (mI M 135 7 (nI 1))) (Cn := RX8) (T := TX8) (N := 18) (id := 135) (by decide) inw_X8 tyX8_ok nmX8 rfl rfl 7 (by decide) rfl fl_X8_41 rfl rfl (rfl) (Nat.le_of_ble_eq_true rfl) (fun j hj => ⟨mI_ne _ hj, rfl⟩) rfl dX8_whyNotMultiply_6 ?_
  refine r_aload_n C dX8_whyNotMultiply_9 rfl 0 rfl ?_
  refine r_get C (Cn := RX8) (T := TX8) (N := 18) (id := 135) (by decide) inw_X8 rfl rfl 7 (by decide) rfl fl_X8_41 rfl dX8_whyNotMultiply_10 ?_
  refine r_topi (w := nI 1) (rfl) ?_
  refine r_if_le C 20 dX8_whyNotMultiply_13 (by decide) (fun h13 => ?_) (fun h13 => ?_)
  · exact absurd h13 (by decide)
  ·
    refine r_iconst C (nI 0) dX8_whyNotMultiply_16 (by decide) ?_
    refine r_goto C 25 dX8_whyNotMultiply_17 (by decide) ?_
    exact E 0 _ _ _ _ (Nat.le_of_ble_eq_true rfl) dX8_whyNotMultiply_25 (⟨rfl, rfl⟩)
set_option maxRecDepth 100000 in
set_option maxHeartbeats 4000000 in
theorem c_X8_restoreF (l : Launch) (D : va_G) (cs : Nat → ClassId) (ad : Nat → Nat) (M : Mm) (q : Nat) (hq : q ≤ 1) (ht : M.1 139 q = nI 0) : ∀ sz : Nat, Met l yX8_restore (.code yX8_restore cX8_restore 3 (some .int) :: TT) { frames := 3, cells := 0, slots := 0, locals := 63 } (va_Pc [.ref (ad 135), .int (nI q)] (fun U9 => U9.heap.size = sz ∧ wB D cs ad (fA ad sz) M U9)) (va_Qi (fun r M2 => r = nI 0 ∧ M2 = mI M 135 7 (nI 2)) (wB D cs ad (fA ad sz)) (fA ad sz)) 0 0 (fA ad sz) := by
  refine st_I (by decide) (Nat.le_of_ble_eq_true rfl) (fun κ C E => ?_)
  refine r_lv (lv2 := [(0, .ref (ad 135)), (1, .int (nI q))]) [0, 1] rfl ?_
  refine r_aload_n C dX8_restore_0 rfl 0 rfl ?_
  refine r_aload_n C dX8_restore_1 rfl 0 rfl ?_
  refine r_iload_n C dX8_restore_2 rfl 1 rfl ?_
  refine r_pcallV_i (nA := 1) C (Nat.le_of_ble_eq_true rfl) [.int (nI q)] (c_X8_refusedF l D cs ad M q (by omega) ht) (tt_V ml_X8_138 im_X8_refusedSnapshot se_X8_refusedSnapshot in_X8 co_X8_refusedSnapshot) ⟨rfl, rfl⟩ ⟨rfl, by decide, by decide, by decide⟩ ⟨Nat.le_of_ble_eq_true rfl, Nat.le_of_ble_eq_true rfl⟩ (by decide) rfl rfl rfl rfl rfl (Nat.le_of_ble_eq_true rfl) dX8_restore_3 ?_
  refine r_put C (M2 := (mI M 135 7 (nI 2))) (Cn := RX8) (T := TX8) (N := 18) (id := 135) (by decide) inw_X8 tyX8_ok nmX8 rfl rfl 7 (by decide) rfl fl_X8_41 rfl rfl (rfl) (Nat.le_of_ble_eq_true rfl) (fun j hj => ⟨mI_ne _ hj, rfl⟩) rfl dX8_restore_6 ?_
  refine r_aload_n C dX8_restore_9 rfl 0 rfl ?_
  refine r_get C (Cn := RX8) (T := TX8) (N := 18) (id := 135) (by decide) inw_X8 rfl rfl 7 (by decide) rfl fl_X8_41 rfl dX8_restore_10 ?_
  refine r_topi (w := nI 2) (rfl) ?_
  refine r_if_le C 18 dX8_restore_13 (by decide) (fun h13 => ?_) (fun h13 => ?_)
  · exact absurd h13 (by decide)
  ·
    refine r_iconst C (nI 0) dX8_restore_16 (by decide) ?_
    exact E 0 _ _ _ _ (Nat.le_of_ble_eq_true rfl) dX8_restore_17 (⟨rfl, rfl⟩)
set_option maxRecDepth 100000 in
set_option maxHeartbeats 4000000 in
theorem c_X8_multiplyF (l : Launch) (D : va_G) (cs : Nat → ClassId) (ad : Nat → Nat) (M : Mm) (q : Nat) (hq : q ≤ 1) (ht : M.1 139 q = nI 0) : ∀ sz : Nat, Met l yX8_multiply (.code yX8_multiply cX8_multiply 3 (some .int) :: TT) { frames := 3, cells := 0, slots := 0, locals := 63 } (va_Pc [.ref (ad 135), .int (nI q)] (fun U9 => U9.heap.size = sz ∧ wB D cs ad (fA ad sz) M U9)) (va_Qi (fun r M2 => r = nI 0 ∧ M2 = mI M 135 7 (nI 2)) (wB D cs ad (fA ad sz)) (fA ad sz)) 0 0 (fA ad sz) := by
  refine st_I (by decide) (Nat.le_of_ble_eq_true rfl) (fun κ C E => ?_)
  refine r_lv (lv2 := [(0, .ref (ad 135)), (1, .int (nI q))]) [0, 1] rfl ?_
  refine r_aload_n C dX8_multiply_0 rfl 0 rfl ?_
  refine r_aload_n C dX8_multiply_1 rfl 0 rfl ?_
  refine r_iload_n C dX8_multiply_2 rfl 1 rfl ?_
  refine r_pcallV_i (nA := 1) C (Nat.le_of_ble_eq_true rfl) [.int (nI q)] (c_X8_refusedF l D cs ad M q (by omega) ht) (tt_V ml_X8_138 im_X8_refusedSnapshot se_X8_refusedSnapshot in_X8 co_X8_refusedSnapshot) ⟨rfl, rfl⟩ ⟨rfl, by decide, by decide, by decide⟩ ⟨Nat.le_of_ble_eq_true rfl, Nat.le_of_ble_eq_true rfl⟩ (by decide) rfl rfl rfl rfl rfl (Nat.le_of_ble_eq_true rfl) dX8_multiply_3 ?_
  refine r_put C (M2 := (mI M 135 7 (nI 2))) (Cn := RX8) (T := TX8) (N := 18) (id := 135) (by decide) inw_X8 tyX8_ok nmX8 rfl rfl 7 (by decide) rfl fl_X8_41 rfl rfl (rfl) (Nat.le_of_ble_eq_true rfl) (fun j hj => ⟨mI_ne _ hj, rfl⟩) rfl dX8_multiply_6 ?_
  refine r_aload_n C dX8_multiply_9 rfl 0 rfl ?_
  refine r_get C (Cn := RX8) (T := TX8) (N := 18) (id := 135) (by decide) inw_X8 rfl rfl 7 (by decide) rfl fl_X8_41 rfl dX8_multiply_10 ?_
  refine r_topi (w := nI 2) (rfl) ?_
  refine r_if_ne C 33 dX8_multiply_13 (by decide) (fun h13 => ?_) (fun h13 => ?_)
  ·
    refine r_aload_n C dX8_multiply_33 rfl 0 rfl ?_
    refine r_get C (Cn := RX8) (T := TX8) (N := 18) (id := 135) (by decide) inw_X8 rfl rfl 7 (by decide) rfl fl_X8_41 rfl dX8_multiply_34 ?_
    refine r_topi (w := nI 2) (rfl) ?_
    refine r_if_le C 42 dX8_multiply_37 (by decide) (fun h37 => ?_) (fun h37 => ?_)
    · exact absurd h37 (by decide)
    ·
      refine r_iconst C (nI 0) dX8_multiply_40 (by decide) ?_
      exact E 0 _ _ _ _ (Nat.le_of_ble_eq_true rfl) dX8_multiply_41 (⟨rfl, rfl⟩)
  · exact absurd h13 (by decide)
set_option maxRecDepth 100000 in
set_option maxHeartbeats 4000000 in
theorem c_X8_whyNotMultiplyF (l : Launch) (D : va_G) (cs : Nat → ClassId) (ad : Nat → Nat) (M : Mm) (q : Nat) (hq : q ≤ 1) (ht : M.1 139 q = nI 0) : ∀ sz : Nat, Met l yX8_whyNotMultiply (.code yX8_whyNotMultiply cX8_whyNotMultiply 2 (some .int) :: TT) { frames := 3, cells := 0, slots := 0, locals := 63 } (va_Pc [.ref (ad 135), .int (nI q)] (fun U9 => U9.heap.size = sz ∧ wB D cs ad (fA ad sz) M U9)) (va_Qi (fun r M2 => r = nI 0 ∧ M2 = mI M 135 7 (nI 2)) (wB D cs ad (fA ad sz)) (fA ad sz)) 0 0 (fA ad sz) := by
  refine st_I (by decide) (Nat.le_of_ble_eq_true rfl) (fun κ C E => ?_)
  refine r_lv (lv2 := [(0, .ref (ad 135)), (1, .int (nI q))]) [0, 1] rfl ?_
  refine r_aload_n C dX8_whyNotMultiply_0 rfl 0 rfl ?_
  refine r_aload_n C dX8_whyNotMultiply_1 rfl 0 rfl ?_
  refine r_iload_n C dX8_whyNotMultiply_2 rfl 1 rfl ?_
  refine r_pcallV_i (nA := 1) C (Nat.le_of_ble_eq_true rfl) [.int (nI q)] (c_X8_refusedF l D cs ad M q (by omega) ht) (tt_V ml_X8_138 im_X8_refusedSnapshot se_X8_refusedSnapshot in_X8 co_X8_refusedSnapshot) ⟨rfl, rfl⟩ ⟨rfl, by decide, by decide, by decide⟩ ⟨Nat.le_of_ble_eq_true rfl, Nat.le_of_ble_eq_true rfl⟩ (by decide) rfl rfl rfl rfl rfl (Nat.le_of_ble_eq_true rfl) dX8_whyNotMultiply_3 ?_
  refine r_put C (M2 := (mI M 135 7 (nI 2))) (Cn := RX8) (T := TX8) (N := 18) (id := 135) (by decide) inw_X8 tyX8_ok nmX8 rfl rfl 7 (by decide) rfl fl_X8_41 rfl rfl (rfl) (Nat.le_of_ble_eq_true rfl) (fun j hj => ⟨mI_ne _ hj, rfl⟩) rfl dX8_whyNotMultiply_6 ?_
  refine r_aload_n C dX8_whyNotMultiply_9 rfl 0 rfl ?_
  refine r_get C (Cn := RX8) (T := TX8) (N := 18) (id := 135) (by decide) inw_X8 rfl rfl 7 (by decide) rfl fl_X8_41 rfl dX8_whyNotMultiply_10 ?_
  refine r_topi (w := nI 2) (rfl) ?_
  refine r_if_le C 20 dX8_whyNotMultiply_13 (by decide) (fun h13 => ?_) (fun h13 => ?_)
  · exact absurd h13 (by decide)
  ·
    refine r_iconst C (nI 0) dX8_whyNotMultiply_16 (by decide) ?_
    refine r_goto C 25 dX8_whyNotMultiply_17 (by decide) ?_
    exact E 0 _ _ _ _ (Nat.le_of_ble_eq_true rfl) dX8_whyNotMultiply_25 (⟨rfl, rfl⟩)
set_option maxRecDepth 100000 in
set_option maxHeartbeats 4000000 in
theorem c_X8_undo (l : Launch) (D : va_G) (cs : Nat → ClassId) (ad : Nat → Nat) (M : Mm) (s : Nat) (hs : M.1 135 1 = nI (s + 1)) (hs6 : s < 6) : ∀ sz : Nat, Met l yX8_undo (.code yX8_undo cX8_undo 2 (some .int) :: TT) { frames := 0, cells := 0, slots := 0, locals := 0 } (va_Pc [.ref (ad 135)] (fun U9 => U9.heap.size = sz ∧ wB D cs ad (fA ad sz) M U9)) (va_Qi (fun r M2 => r = nI s ∧ M2 = mA (mI (mI M 135 7 (nI 0)) 135 1 (nI s)) 136 (ovR (M.1 136) (M.1 137) (55 * s) 55)) (wB D cs ad (fA ad sz)) (fA ad sz)) 0 0 (fA ad sz) := by
  refine st_I (by decide) (Nat.le_of_ble_eq_true rfl) (fun κ C E => ?_)
  refine r_lv (lv2 := [(0, .ref (ad 135))]) [0] rfl ?_
  refine r_aload_n C dX8_undo_0 rfl 0 rfl ?_
  refine r_aload_n C dX8_undo_1 rfl 0 rfl ?_
  refine r_get C (Cn := RX8) (T := TX8) (N := 18) (id := 135) (by decide) inw_X8 rfl rfl 1 (by decide) rfl fl_X8_45 rfl dX8_undo_2 ?_
  refine r_topi hs ?_
  refine r_ifN_le C 12 dX8_undo_5 (by decide) (by omega) (fun h5 => ?_) (fun h5 => ?_)
  · exact absurd h5 (by omega)
  ·
    refine r_iconst C (nI 0) dX8_undo_8 (by decide) ?_
    refine r_goto C 13 dX8_undo_9 (by decide) ?_
    refine r_put C (M2 := (mI M 135 7 (nI 0))) (Cn := RX8) (T := TX8) (N := 18) (id := 135) (by decide) inw_X8 tyX8_ok nmX8 rfl rfl 7 (by decide) rfl fl_X8_41 rfl rfl (rfl) (Nat.le_of_ble_eq_true rfl) (fun j hj => ⟨mI_ne _ hj, rfl⟩) rfl dX8_undo_13 ?_
    refine r_aload_n C dX8_undo_16 rfl 0 rfl ?_
    refine r_get C (Cn := RX8) (T := TX8) (N := 18) (id := 135) (by decide) inw_X8 rfl rfl 7 (by decide) rfl fl_X8_41 rfl dX8_undo_17 ?_
    refine r_topi (w := nI 0) (rfl) ?_
    refine r_if_le C 25 dX8_undo_20 (by decide) (fun h20 => ?_) (fun h20 => ?_)
    ·
      refine r_aload_n C dX8_undo_25 rfl 0 rfl ?_
      refine r_dup C dX8_undo_26 rfl ?_
      refine r_get C (Cn := RX8) (T := TX8) (N := 18) (id := 135) (by decide) inw_X8 rfl rfl 1 (by decide) rfl fl_X8_45 rfl dX8_undo_27 ?_
      refine r_topi (w := (M.1 135 1)) (rfl) ?_
      refine r_topi hs ?_
      refine r_iconst C (nI 1) dX8_undo_30 (by decide) ?_
      refine r_isub C dX8_undo_31 ?_
      refine r_topi (w := nI s) (by rw [pk_sub (by omega)]; congr 1) ?_
      refine r_put C (M2 := (mI (mI M 135 7 (nI 0)) 135 1 (nI s))) (Cn := RX8) (T := TX8) (N := 18) (id := 135) (by decide) inw_X8 tyX8_ok nmX8 rfl rfl 1 (by decide) rfl fl_X8_45 rfl rfl (rfl) (Nat.le_of_ble_eq_true rfl) (fun j hj => ⟨mI_ne _ hj, rfl⟩) rfl dX8_undo_32 ?_
      refine r_iconst C (nI 0) dX8_undo_35 (by decide) ?_
      refine r_istore_n C [(1, .int (nI 0)), (0, .ref (ad 135))] dX8_undo_36 rfl (by decide) rfl ?_
      have Lp : ∀ (f k : Nat), 55 + 1 ≤ k + f → k ≤ 55 → VV l D cs ad 2 κ 0 (mA (mI (mI M 135 7 (nI 0)) 135 1 (nI s)) 136 (ovR (M.1 136) (M.1 137) (55 * s) k)) 37 [(1, .int (nI k)), (0, .ref (ad 135))] [] := by
        intro f
        induction f with
        | zero => intro k hk1 hk2; exact absurd hk1 (by omega)
        | succ f ih =>
          intro k hk1 hk2
          refine r_iload_n C dX8_undo_37 rfl 0 rfl ?_
          refine r_bipush C (nI 55) dX8_undo_38 (by decide) ?_
          refine r_icmpN_ge C 69 dX8_undo_40 (by decide) (by omega) (by omega) (fun h40 => ?_) (fun h40 => ?_)
          ·
            have hk9 : 55 = k := by omega
            subst hk9
            refine r_aload_n C dX8_undo_69 rfl 1 rfl ?_
            refine r_get C (Cn := RX8) (T := TX8) (N := 18) (id := 135) (by decide) inw_X8 rfl rfl 1 (by decide) rfl fl_X8_45 rfl dX8_undo_70 ?_
            refine r_topi (w := nI s) (rfl) ?_
            exact E 0 _ _ _ _ (Nat.le_of_ble_eq_true rfl) dX8_undo_73 (⟨rfl, rfl⟩)
          ·
            refine r_aload_n C dX8_undo_43 rfl 1 rfl ?_
            refine r_get C (Cn := RX8) (T := TX8) (N := 18) (id := 135) (by decide) inw_X8 rfl rfl 0 (by decide) rfl fl_X8_7 rfl dX8_undo_44 ?_
            refine r_iload_n C dX8_undo_47 rfl 0 rfl ?_
            refine r_aload_n C dX8_undo_48 rfl 1 rfl ?_
            refine r_get C (Cn := RX8) (T := TX8) (N := 18) (id := 135) (by decide) inw_X8 rfl rfl 2 (by decide) rfl fl_X8_13 rfl dX8_undo_49 ?_
            refine r_bipush C (nI 55) dX8_undo_52 (by decide) ?_
            refine r_aload_n C dX8_undo_54 rfl 1 rfl ?_
            refine r_get C (Cn := RX8) (T := TX8) (N := 18) (id := 135) (by decide) inw_X8 rfl rfl 1 (by decide) rfl fl_X8_45 rfl dX8_undo_55 ?_
            refine r_topi (w := nI s) (rfl) ?_
            refine r_imul C dX8_undo_58 ?_
            refine r_topi (pk_mul 55 s) ?_
            refine r_iload_n C dX8_undo_59 rfl 0 rfl ?_
            refine r_iadd C dX8_undo_60 ?_
            refine r_topi (nI_add (55 * s) k) ?_
            refine r_iald C (id := 137) (n := 330) (a := (55 * s) + k) (by decide) rfl (by omega) (by decide) dX8_undo_61 ?_
            refine r_topi (w := (M.1 137 ((55 * s) + k))) (rfl) ?_
            refine r_iast C (id := 136) (n := 55) (a := k) (by decide) (fun _ => rfl) (by omega) (by decide) dX8_undo_62 ?_
            refine r_iinc C (nI (k + 1)) [(1, .int (nI (k + 1))), (0, .ref (ad 135))] dX8_undo_63 (j := 0) rfl (inc_n k 1) (by decide) rfl ?_
            refine r_goto C 37 dX8_undo_66 (by decide) ?_
            refine r_lv (lv2 := [(1, .int (nI (k + 1))), (0, .ref (ad 135))]) [0, 1] rfl ?_
            refine r_mem (M2 := (mA (mI (mI M 135 7 (nI 0)) 135 1 (nI s)) 136 (ovR (M.1 136) (M.1 137) (55 * s) (k + 1)))) (by rw [mIA]; exact congrArg _ (ovR_s _ _ _ _)) ?_
            exact ih (k + 1) (by omega) (by omega)
      refine r_lv (lv2 := [(1, .int (nI 0)), (0, .ref (ad 135))]) [0, 1] rfl ?_
      refine r_mem (M2 := (mA (mI (mI M 135 7 (nI 0)) 135 1 (nI s)) 136 (ovR (M.1 136) (M.1 137) (55 * s) 0))) (mA_id (ovR_0 _ _ _)) ?_
      exact Lp (55 + 1) 0 (by omega) (by omega)
    · exact absurd h20 (by decide)
set_option maxRecDepth 100000 in
set_option maxHeartbeats 4000000 in
theorem c_X8_undoX (l : Launch) (D : va_G) (cs : Nat → ClassId) (ad : Nat → Nat) (M : Mm) (hs : M.1 135 1 = nI 0) : ∀ sz : Nat, Met l yX8_undo (.code yX8_undo cX8_undo 2 (some .int) :: TT) { frames := 0, cells := 0, slots := 0, locals := 0 } (va_Pc [.ref (ad 135)] (fun U9 => U9.heap.size = sz ∧ wB D cs ad (fA ad sz) M U9)) (va_Qi (fun r M2 => r = nI 0 ∧ M2 = mI M 135 7 (nI 1)) (wB D cs ad (fA ad sz)) (fA ad sz)) 0 0 (fA ad sz) := by
  refine st_I (by decide) (Nat.le_of_ble_eq_true rfl) (fun κ C E => ?_)
  refine r_lv (lv2 := [(0, .ref (ad 135))]) [0] rfl ?_
  refine r_aload_n C dX8_undo_0 rfl 0 rfl ?_
  refine r_aload_n C dX8_undo_1 rfl 0 rfl ?_
  refine r_get C (Cn := RX8) (T := TX8) (N := 18) (id := 135) (by decide) inw_X8 rfl rfl 1 (by decide) rfl fl_X8_45 rfl dX8_undo_2 ?_
  refine r_topi hs ?_
  refine r_if_le C 12 dX8_undo_5 (by decide) (fun h5 => ?_) (fun h5 => ?_)
  ·
    refine r_iconst C (nI 1) dX8_undo_12 (by decide) ?_
    refine r_put C (M2 := (mI M 135 7 (nI 1))) (Cn := RX8) (T := TX8) (N := 18) (id := 135) (by decide) inw_X8 tyX8_ok nmX8 rfl rfl 7 (by decide) rfl fl_X8_41 rfl rfl (rfl) (Nat.le_of_ble_eq_true rfl) (fun j hj => ⟨mI_ne _ hj, rfl⟩) rfl dX8_undo_13 ?_
    refine r_aload_n C dX8_undo_16 rfl 0 rfl ?_
    refine r_get C (Cn := RX8) (T := TX8) (N := 18) (id := 135) (by decide) inw_X8 rfl rfl 7 (by decide) rfl fl_X8_41 rfl dX8_undo_17 ?_
    refine r_topi (w := nI 1) (rfl) ?_
    refine r_if_le C 25 dX8_undo_20 (by decide) (fun h20 => ?_) (fun h20 => ?_)
    · exact absurd h20 (by decide)
    ·
      refine r_iconst C (nI 0) dX8_undo_23 (by decide) ?_
      exact E 0 _ _ _ _ (Nat.le_of_ble_eq_true rfl) dX8_undo_24 (⟨rfl, rfl⟩)
  · exact absurd h5 (by decide)
set_option maxRecDepth 100000 in
set_option maxHeartbeats 4000000 in
theorem c_X8_joined (l : Launch) (D : va_G) (cs : Nat → ClassId) (ad : Nat → Nat) (M : Mm) (n : Nat) (hn : M.1 136 0 = nI n) (hn8 : n ≤ 8) (a b : Nat) (ha : a < n) (hb : b < n) : ∀ sz : Nat, Met l yX8_joined (.code yX8_joined cX8_joined 3 (some .int) :: TT) { frames := 2, cells := 0, slots := 0, locals := 43 } (va_Pc [.ref (ad 135), .int (nI a), .int (nI b)] (fun U9 => U9.heap.size = sz ∧ wB D cs ad (fA ad sz) M U9)) (va_Qi (fun r M2 => r = bI (bt (M.1 136 (10 + a)) b) ∧ M2 = (mI M 135 7 (nI 0))) (wB D cs ad (fA ad sz)) (fA ad sz)) 0 0 (fA ad sz) := by
  refine st_I (by decide) (Nat.le_of_ble_eq_true rfl) (fun κ C E => ?_)
  refine r_lv (lv2 := [(0, .ref (ad 135)), (1, .int (nI a)), (2, .int (nI b))]) [0, 1, 2] rfl ?_
  refine r_aload_n C dX8_joined_0 rfl 0 rfl ?_
  refine r_aload_n C dX8_joined_1 rfl 0 rfl ?_
  refine r_iload_n C dX8_joined_2 rfl 1 rfl ?_
  refine r_pcallV_i (nA := 1) C (Nat.le_of_ble_eq_true rfl) [.int (nI a)] (c_X8_isVertex l D cs ad M (nI a) n hn hn8) (tt_V ml_X8_113 im_X8_isVertex se_X8_isVertex in_X8 co_X8_isVertex) ⟨rfl, rfl⟩ ⟨rfl, by decide, by decide, by decide⟩ ⟨Nat.le_of_ble_eq_true rfl, Nat.le_of_ble_eq_true rfl⟩ (by decide) rfl rfl rfl rfl rfl (Nat.le_of_ble_eq_true rfl) dX8_joined_3 ?_
  refine r_ifB_eq C 21 dX8_joined_6 (by decide) (fun h6 => ?_) (fun h6 => ?_)
  · exact absurd (h6.symm.trans (wit_n ha (by omega))) (by decide)
  ·
    refine r_aload_n C dX8_joined_9 rfl 0 rfl ?_
    refine r_iload_n C dX8_joined_10 rfl 2 rfl ?_
    refine r_pcallV_i (nA := 1) C (Nat.le_of_ble_eq_true rfl) [.int (nI b)] (c_X8_isVertex l D cs ad M (nI b) n hn hn8) (tt_V ml_X8_113 im_X8_isVertex se_X8_isVertex in_X8 co_X8_isVertex) ⟨rfl, rfl⟩ ⟨rfl, by decide, by decide, by decide⟩ ⟨Nat.le_of_ble_eq_true rfl, Nat.le_of_ble_eq_true rfl⟩ (by decide) rfl rfl rfl rfl rfl (Nat.le_of_ble_eq_true rfl) dX8_joined_11 ?_
    refine r_ifB_eq C 21 dX8_joined_14 (by decide) (fun h14 => ?_) (fun h14 => ?_)
    · exact absurd (h14.symm.trans (wit_n hb (by omega))) (by decide)
    ·
      refine r_iconst C (nI 0) dX8_joined_17 (by decide) ?_
      refine r_goto C 22 dX8_joined_18 (by decide) ?_
      refine r_put C (M2 := (mI M 135 7 (nI 0))) (Cn := RX8) (T := TX8) (N := 18) (id := 135) (by decide) inw_X8 tyX8_ok nmX8 rfl rfl 7 (by decide) rfl fl_X8_41 rfl rfl (rfl) (Nat.le_of_ble_eq_true rfl) (fun j hj => ⟨mI_ne _ hj, rfl⟩) rfl dX8_joined_22 ?_
      refine r_aload_n C dX8_joined_25 rfl 0 rfl ?_
      refine r_get C (Cn := RX8) (T := TX8) (N := 18) (id := 135) (by decide) inw_X8 rfl rfl 7 (by decide) rfl fl_X8_41 rfl dX8_joined_26 ?_
      refine r_topi (w := nI 0) (rfl) ?_
      refine r_if_gt C 41 dX8_joined_29 (by decide) (fun h29 => ?_) (fun h29 => ?_)
      · exact absurd h29 (by decide)
      ·
        refine r_aload_n C dX8_joined_32 rfl 0 rfl ?_
        refine r_iload_n C dX8_joined_33 rfl 1 rfl ?_
        refine r_iload_n C dX8_joined_34 rfl 2 rfl ?_
        refine r_pcallV_i (nA := 2) C (Nat.le_of_ble_eq_true rfl) [.int (nI a), .int (nI b)] (c_X8_areJoined l D cs ad (mI M 135 7 (nI 0)) a b (by omega)) (tt_V ml_X8_67 im_X8_areJoined se_X8_areJoined in_X8 co_X8_areJoined) ⟨rfl, rfl⟩ ⟨rfl, by decide, by decide, by decide⟩ ⟨Nat.le_of_ble_eq_true rfl, Nat.le_of_ble_eq_true rfl⟩ (by decide) rfl rfl rfl rfl rfl (Nat.le_of_ble_eq_true rfl) dX8_joined_35 ?_
        refine r_topi (w := bI (bt (M.1 136 (10 + a)) b)) rfl ?_
        refine r_ifB_ne C 45 dX8_joined_38 (by decide) (fun h38 => ?_) (fun h38 => ?_)
        ·
          refine r_iconst C (nI 1) dX8_joined_45 (by decide) ?_
          exact E 0 _ _ _ _ (Nat.le_of_ble_eq_true rfl) dX8_joined_46 (⟨bI_on (by simp [h6, h14, h29, h38]), rfl⟩)
        ·
          refine r_iconst C (nI 0) dX8_joined_41 (by decide) ?_
          refine r_goto C 46 dX8_joined_42 (by decide) ?_
          exact E 0 _ _ _ _ (Nat.le_of_ble_eq_true rfl) dX8_joined_46 (⟨bI_off (by simp [h6, h14, h29, h38]), rfl⟩)
set_option maxRecDepth 100000 in
set_option maxHeartbeats 4000000 in
theorem c_X8_joinedX (l : Launch) (D : va_G) (cs : Nat → ClassId) (ad : Nat → Nat) (M : Mm) (n : Nat) (hn : M.1 136 0 = nI n) (hn8 : n ≤ 8) (x y : Int32) (hbad : (wit x (nI 0) (nI n - nI 1) && wit y (nI 0) (nI n - nI 1)) = false) : ∀ sz : Nat, Met l yX8_joined (.code yX8_joined cX8_joined 3 (some .int) :: TT) { frames := 2, cells := 0, slots := 0, locals := 43 } (va_Pc [.ref (ad 135), .int x, .int y] (fun U9 => U9.heap.size = sz ∧ wB D cs ad (fA ad sz) M U9)) (va_Qi (fun r M2 => r = nI 0 ∧ M2 = mI M 135 7 (nI 1)) (wB D cs ad (fA ad sz)) (fA ad sz)) 0 0 (fA ad sz) := by
  refine st_I (by decide) (Nat.le_of_ble_eq_true rfl) (fun κ C E => ?_)
  refine r_lv (lv2 := [(0, .ref (ad 135)), (1, .int x), (2, .int y)]) [0, 1, 2] rfl ?_
  refine r_aload_n C dX8_joined_0 rfl 0 rfl ?_
  refine r_aload_n C dX8_joined_1 rfl 0 rfl ?_
  refine r_iload_n C dX8_joined_2 rfl 1 rfl ?_
  refine r_pcallV_i (nA := 1) C (Nat.le_of_ble_eq_true rfl) [.int x] (c_X8_isVertex l D cs ad M x n hn hn8) (tt_V ml_X8_113 im_X8_isVertex se_X8_isVertex in_X8 co_X8_isVertex) ⟨rfl, rfl⟩ ⟨rfl, by decide, by decide, by decide⟩ ⟨Nat.le_of_ble_eq_true rfl, Nat.le_of_ble_eq_true rfl⟩ (by decide) rfl rfl rfl rfl rfl (Nat.le_of_ble_eq_true rfl) dX8_joined_3 ?_
  refine r_ifB_eq C 21 dX8_joined_6 (by decide) (fun h6 => ?_) (fun h6 => ?_)
  ·
    refine r_iconst C (nI 1) dX8_joined_21 (by decide) ?_
    refine r_put C (M2 := (mI M 135 7 (nI 1))) (Cn := RX8) (T := TX8) (N := 18) (id := 135) (by decide) inw_X8 tyX8_ok nmX8 rfl rfl 7 (by decide) rfl fl_X8_41 rfl rfl (rfl) (Nat.le_of_ble_eq_true rfl) (fun j hj => ⟨mI_ne _ hj, rfl⟩) rfl dX8_joined_22 ?_
    refine r_aload_n C dX8_joined_25 rfl 0 rfl ?_
    refine r_get C (Cn := RX8) (T := TX8) (N := 18) (id := 135) (by decide) inw_X8 rfl rfl 7 (by decide) rfl fl_X8_41 rfl dX8_joined_26 ?_
    refine r_topi (w := nI 1) (rfl) ?_
    refine r_if_gt C 41 dX8_joined_29 (by decide) (fun h29 => ?_) (fun h29 => ?_)
    ·
      refine r_iconst C (nI 0) dX8_joined_41 (by decide) ?_
      refine r_goto C 46 dX8_joined_42 (by decide) ?_
      exact E 0 _ _ _ _ (Nat.le_of_ble_eq_true rfl) dX8_joined_46 (⟨rfl, rfl⟩)
    · exact absurd h29 (by decide)
  ·
    refine r_aload_n C dX8_joined_9 rfl 0 rfl ?_
    refine r_iload_n C dX8_joined_10 rfl 2 rfl ?_
    refine r_pcallV_i (nA := 1) C (Nat.le_of_ble_eq_true rfl) [.int y] (c_X8_isVertex l D cs ad M y n hn hn8) (tt_V ml_X8_113 im_X8_isVertex se_X8_isVertex in_X8 co_X8_isVertex) ⟨rfl, rfl⟩ ⟨rfl, by decide, by decide, by decide⟩ ⟨Nat.le_of_ble_eq_true rfl, Nat.le_of_ble_eq_true rfl⟩ (by decide) rfl rfl rfl rfl rfl (Nat.le_of_ble_eq_true rfl) dX8_joined_11 ?_
    refine r_ifB_eq C 21 dX8_joined_14 (by decide) (fun h14 => ?_) (fun h14 => ?_)
    ·
      refine r_iconst C (nI 1) dX8_joined_21 (by decide) ?_
      refine r_put C (M2 := (mI M 135 7 (nI 1))) (Cn := RX8) (T := TX8) (N := 18) (id := 135) (by decide) inw_X8 tyX8_ok nmX8 rfl rfl 7 (by decide) rfl fl_X8_41 rfl rfl (rfl) (Nat.le_of_ble_eq_true rfl) (fun j hj => ⟨mI_ne _ hj, rfl⟩) rfl dX8_joined_22 ?_
      refine r_aload_n C dX8_joined_25 rfl 0 rfl ?_
      refine r_get C (Cn := RX8) (T := TX8) (N := 18) (id := 135) (by decide) inw_X8 rfl rfl 7 (by decide) rfl fl_X8_41 rfl dX8_joined_26 ?_
      refine r_topi (w := nI 1) (rfl) ?_
      refine r_if_gt C 41 dX8_joined_29 (by decide) (fun h29 => ?_) (fun h29 => ?_)
      ·
        refine r_iconst C (nI 0) dX8_joined_41 (by decide) ?_
        refine r_goto C 46 dX8_joined_42 (by decide) ?_
        exact E 0 _ _ _ _ (Nat.le_of_ble_eq_true rfl) dX8_joined_46 (⟨rfl, rfl⟩)
      · exact absurd h29 (by decide)
    ·
      simp [h6, h14] at hbad
set_option maxRecDepth 100000 in
set_option maxHeartbeats 4000000 in
theorem c_X8_handle (l : Launch) (D : va_G) (cs : Nat → ClassId) (ad : Nat → Nat) (M : Mm) (d : Nat) (hd : M.1 136 1 = nI d) (hd4 : d ≤ 4) (p : Nat) (hp : p < d) : ∀ sz : Nat, Met l yX8_handle (.code yX8_handle cX8_handle 2 (some .int) :: TT) { frames := 2, cells := 0, slots := 0, locals := 43 } (va_Pc [.ref (ad 135), .int (nI p)] (fun U9 => U9.heap.size = sz ∧ wB D cs ad (fA ad sz) M U9)) (va_Qi (fun r M2 => r = M.1 136 (50 + p) ∧ M2 = (mI M 135 7 (nI 0))) (wB D cs ad (fA ad sz)) (fA ad sz)) 0 0 (fA ad sz) := by
  refine st_I (by decide) (Nat.le_of_ble_eq_true rfl) (fun κ C E => ?_)
  refine r_lv (lv2 := [(0, .ref (ad 135)), (1, .int (nI p))]) [0, 1] rfl ?_
  refine r_aload_n C dX8_handle_0 rfl 0 rfl ?_
  refine r_aload_n C dX8_handle_1 rfl 0 rfl ?_
  refine r_iload_n C dX8_handle_2 rfl 1 rfl ?_
  refine r_pcallV_i (nA := 1) C (Nat.le_of_ble_eq_true rfl) [.int (nI p)] (c_X8_isPlace l D cs ad M (nI p) d hd hd4) (tt_V ml_X8_144 im_X8_isPlace se_X8_isPlace in_X8 co_X8_isPlace) ⟨rfl, rfl⟩ ⟨rfl, by decide, by decide, by decide⟩ ⟨Nat.le_of_ble_eq_true rfl, Nat.le_of_ble_eq_true rfl⟩ (by decide) rfl rfl rfl rfl rfl (Nat.le_of_ble_eq_true rfl) dX8_handle_3 ?_
  refine r_ifB_eq C 13 dX8_handle_6 (by decide) (fun h6 => ?_) (fun h6 => ?_)
  · exact absurd (h6.symm.trans (wit_n hp (by omega))) (by decide)
  ·
    refine r_iconst C (nI 0) dX8_handle_9 (by decide) ?_
    refine r_goto C 14 dX8_handle_10 (by decide) ?_
    refine r_put C (M2 := (mI M 135 7 (nI 0))) (Cn := RX8) (T := TX8) (N := 18) (id := 135) (by decide) inw_X8 tyX8_ok nmX8 rfl rfl 7 (by decide) rfl fl_X8_41 rfl rfl (rfl) (Nat.le_of_ble_eq_true rfl) (fun j hj => ⟨mI_ne _ hj, rfl⟩) rfl dX8_handle_14 ?_
    refine r_aload_n C dX8_handle_17 rfl 0 rfl ?_
    refine r_get C (Cn := RX8) (T := TX8) (N := 18) (id := 135) (by decide) inw_X8 rfl rfl 7 (by decide) rfl fl_X8_41 rfl dX8_handle_18 ?_
    refine r_topi (w := nI 0) (rfl) ?_
    refine r_if_le C 28 dX8_handle_21 (by decide) (fun h21 => ?_) (fun h21 => ?_)
    ·
      refine r_aload_n C dX8_handle_28 rfl 0 rfl ?_
      refine r_get C (Cn := RX8) (T := TX8) (N := 18) (id := 135) (by decide) inw_X8 rfl rfl 0 (by decide) rfl fl_X8_7 rfl dX8_handle_29 ?_
      refine r_bipush C (nI 50) dX8_handle_32 (by decide) ?_
      refine r_iload_n C dX8_handle_34 rfl 1 rfl ?_
      refine r_iadd C dX8_handle_35 ?_
      refine r_topi (nI_add 50 p) ?_
      refine r_iald C (id := 136) (n := 55) (a := 50 + p) (by decide) rfl (by omega) (by decide) dX8_handle_36 ?_
      refine r_topi (w := (M.1 136 (50 + p))) (rfl) ?_
      exact E 0 _ _ _ _ (Nat.le_of_ble_eq_true rfl) dX8_handle_37 (⟨rfl, rfl⟩)
    · exact absurd h21 (by decide)
set_option maxRecDepth 100000 in
set_option maxHeartbeats 4000000 in
theorem c_X8_handleX (l : Launch) (D : va_G) (cs : Nat → ClassId) (ad : Nat → Nat) (M : Mm) (d : Nat) (hd : M.1 136 1 = nI d) (hd4 : d ≤ 4) (x : Int32) (hbad : wit x (nI 0) (nI d - nI 1) = false) : ∀ sz : Nat, Met l yX8_handle (.code yX8_handle cX8_handle 2 (some .int) :: TT) { frames := 2, cells := 0, slots := 0, locals := 43 } (va_Pc [.ref (ad 135), .int x] (fun U9 => U9.heap.size = sz ∧ wB D cs ad (fA ad sz) M U9)) (va_Qi (fun r M2 => r = nI 0 ∧ M2 = mI M 135 7 (nI 1)) (wB D cs ad (fA ad sz)) (fA ad sz)) 0 0 (fA ad sz) := by
  refine st_I (by decide) (Nat.le_of_ble_eq_true rfl) (fun κ C E => ?_)
  refine r_lv (lv2 := [(0, .ref (ad 135)), (1, .int x)]) [0, 1] rfl ?_
  refine r_aload_n C dX8_handle_0 rfl 0 rfl ?_
  refine r_aload_n C dX8_handle_1 rfl 0 rfl ?_
  refine r_iload_n C dX8_handle_2 rfl 1 rfl ?_
  refine r_pcallV_i (nA := 1) C (Nat.le_of_ble_eq_true rfl) [.int x] (c_X8_isPlace l D cs ad M x d hd hd4) (tt_V ml_X8_144 im_X8_isPlace se_X8_isPlace in_X8 co_X8_isPlace) ⟨rfl, rfl⟩ ⟨rfl, by decide, by decide, by decide⟩ ⟨Nat.le_of_ble_eq_true rfl, Nat.le_of_ble_eq_true rfl⟩ (by decide) rfl rfl rfl rfl rfl (Nat.le_of_ble_eq_true rfl) dX8_handle_3 ?_
  refine r_ifB_eq C 13 dX8_handle_6 (by decide) (fun h6 => ?_) (fun h6 => ?_)
  ·
    refine r_iconst C (nI 1) dX8_handle_13 (by decide) ?_
    refine r_put C (M2 := (mI M 135 7 (nI 1))) (Cn := RX8) (T := TX8) (N := 18) (id := 135) (by decide) inw_X8 tyX8_ok nmX8 rfl rfl 7 (by decide) rfl fl_X8_41 rfl rfl (rfl) (Nat.le_of_ble_eq_true rfl) (fun j hj => ⟨mI_ne _ hj, rfl⟩) rfl dX8_handle_14 ?_
    refine r_aload_n C dX8_handle_17 rfl 0 rfl ?_
    refine r_get C (Cn := RX8) (T := TX8) (N := 18) (id := 135) (by decide) inw_X8 rfl rfl 7 (by decide) rfl fl_X8_41 rfl dX8_handle_18 ?_
    refine r_topi (w := nI 1) (rfl) ?_
    refine r_if_le C 28 dX8_handle_21 (by decide) (fun h21 => ?_) (fun h21 => ?_)
    · exact absurd h21 (by decide)
    ·
      refine r_iconst C (nI 0) dX8_handle_24 (by decide) ?_
      refine r_goto C 37 dX8_handle_25 (by decide) ?_
      exact E 0 _ _ _ _ (Nat.le_of_ble_eq_true rfl) dX8_handle_37 (⟨rfl, rfl⟩)
  · exact absurd (h6.symm.trans hbad) (by decide)
set_option maxRecDepth 100000 in
set_option maxHeartbeats 4000000 in
theorem c_X8_read (l : Launch) (D : va_G) (cs : Nat → ClassId) (ad : Nat → Nat) (M : Mm) (n : Nat) (hn : M.1 136 0 = nI n) (hn8 : n ≤ 8) (s : Nat) (hs : M.1 135 1 = nI s) (hs6 : s ≤ 6) (len : Nat) (hl : M.1 135 5 = nI len) (hl60 : len ≤ 60) (J : Nat) (hJ : len + 1 = 3 * J) (hok : rut (M.1 140) n len = len) (da db : Nat → Nat) (hda : ∀ j, j < J → M.1 140 (3 * j) - nI 48 = nI (da j)) (hdb : ∀ j, j < J → M.1 140 (3 * j + 1) - nI 48 = nI (db j)) (hab : ∀ j, j < J → da j < db j ∧ db j < n) : ∀ sz : Nat, Met l yX8_read (.code yX8_read cX8_read 2 (some .int) :: TT) { frames := 3, cells := 0, slots := 0, locals := 65 } (va_Pc [.ref (ad 135)] (fun U9 => U9.heap.size = sz ∧ wB D cs ad (fA ad sz) M U9)) (va_Qi (fun r M2 => r = edz (rdR (M.1 136) da db J) n ∧ M2 = mI (mA (saveM (mI M 135 7 (nI 0)) s) 136 (rdR (M.1 136) da db J)) 135 5 (nI 0)) (wB D cs ad (fA ad sz)) (fA ad sz)) 0 0 (fA ad sz) := by
  have hru : rut (M.1 140) n len ≤ len := fi_le _ _
  refine st_I (by decide) (Nat.le_of_ble_eq_true rfl) (fun κ C E => ?_)
  refine r_lv (lv2 := [(0, .ref (ad 135))]) [0] rfl ?_
  refine r_aload_n C dX8_read_0 rfl 0 rfl ?_
  refine r_aload_n C dX8_read_1 rfl 0 rfl ?_
  refine r_pcallV_i (nA := 0) C (Nat.le_of_ble_eq_true rfl) [] (c_X8_rightUpTo l D cs ad M  n hn hn8 len hl hl60) (tt_V ml_X8_174 im_X8_rightUpTo se_X8_rightUpTo in_X8 co_X8_rightUpTo) ⟨rfl, rfl⟩ ⟨rfl, by decide, by decide, by decide⟩ ⟨Nat.le_of_ble_eq_true rfl, Nat.le_of_ble_eq_true rfl⟩ (by decide) rfl rfl rfl rfl rfl (Nat.le_of_ble_eq_true rfl) dX8_read_2 ?_
  refine r_aload_n C dX8_read_5 rfl 0 rfl ?_
  refine r_get C (Cn := RX8) (T := TX8) (N := 18) (id := 135) (by decide) inw_X8 rfl rfl 5 (by decide) rfl fl_X8_168 rfl dX8_read_6 ?_
  refine r_topi hl ?_
  refine r_icmpN_ne C 26 dX8_read_9 (by decide) (by omega) (by omega) (fun h9 => ?_) (fun h9 => ?_)
  · exact absurd hok h9
  ·
    refine r_aload_n C dX8_read_12 rfl 0 rfl ?_
    refine r_get C (Cn := RX8) (T := TX8) (N := 18) (id := 135) (by decide) inw_X8 rfl rfl 5 (by decide) rfl fl_X8_168 rfl dX8_read_13 ?_
    refine r_topi hl ?_
    refine r_iconst C (nI 3) dX8_read_16 (by decide) ?_
    refine r_irem C dX8_read_17 (by decide) ?_
    refine r_topi (pk_rem (a := len) (d := 3) (by omega) (by omega) (by omega)) ?_
    refine r_iconst C (nI 2) dX8_read_18 (by decide) ?_
    refine r_icmpN_ne C 26 dX8_read_19 (by decide) (by omega) (by omega) (fun h19 => ?_) (fun h19 => ?_)
    · exact absurd (by omega) h19
    ·
      refine r_iconst C (nI 0) dX8_read_22 (by decide) ?_
      refine r_goto C 27 dX8_read_23 (by decide) ?_
      refine r_put C (M2 := (mI M 135 7 (nI 0))) (Cn := RX8) (T := TX8) (N := 18) (id := 135) (by decide) inw_X8 tyX8_ok nmX8 rfl rfl 7 (by decide) rfl fl_X8_41 rfl rfl (rfl) (Nat.le_of_ble_eq_true rfl) (fun j hj => ⟨mI_ne _ hj, rfl⟩) rfl dX8_read_27 ?_
      refine r_aload_n C dX8_read_30 rfl 0 rfl ?_
      refine r_get C (Cn := RX8) (T := TX8) (N := 18) (id := 135) (by decide) inw_X8 rfl rfl 7 (by decide) rfl fl_X8_41 rfl dX8_read_31 ?_
      refine r_topi (w := nI 0) (rfl) ?_
      refine r_if_le C 39 dX8_read_34 (by decide) (fun h34 => ?_) (fun h34 => ?_)
      ·
        refine r_aload_n C dX8_read_39 rfl 0 rfl ?_
        refine r_pcallV_v (nA := 0) C (Nat.le_of_ble_eq_true rfl) [] (c_X8_save l D cs ad (mI M 135 7 (nI 0))  s hs hs6) (tt_V ml_X8_110 im_X8_save se_X8_save in_X8 co_X8_save) ⟨rfl, rfl⟩ ⟨rfl, by decide, by decide, by decide⟩ ⟨Nat.le_of_ble_eq_true rfl, Nat.le_of_ble_eq_true rfl⟩ (by decide) rfl rfl rfl rfl rfl (Nat.le_of_ble_eq_true rfl) dX8_read_40 ?_
        refine r_iconst C (nI 0) dX8_read_43 (by decide) ?_
        refine r_istore_n C [(1, .int (nI 0)), (0, .ref (ad 135))] dX8_read_44 rfl (by decide) rfl ?_
        have Lp : ∀ (f_j j : Nat), J + 1 ≤ j + f_j → j ≤ J → VV l D cs ad 2 κ 0 (mA (saveM (mI M 135 7 (nI 0)) s) 136 (rdR (M.1 136) da db j)) 45 [(1, .int (nI (3 * j))), (0, .ref (ad 135))] [] := by
          intro f_j
          induction f_j with
          | zero => intro j hk1_j hk2_j; exact absurd hk1_j (by omega)
          | succ f_j ih_j =>
            intro j hk1_j hk2_j
            refine r_iload_n C dX8_read_45 rfl 0 rfl ?_
            refine r_aload_n C dX8_read_46 rfl 1 rfl ?_
            refine r_get C (Cn := RX8) (T := TX8) (N := 18) (id := 135) (by decide) inw_X8 rfl rfl 5 (by decide) rfl fl_X8_168 rfl dX8_read_47 ?_
            refine r_topi (w := (M.1 135 5)) (rfl) ?_
            refine r_topi hl ?_
            refine r_icmpN_ge C 84 dX8_read_50 (by decide) (by omega) (by omega) (fun h50 => ?_) (fun h50 => ?_)
            ·
              have hk9 : J = j := by omega
              subst hk9
              refine r_aload_n C dX8_read_84 rfl 1 rfl ?_
              refine r_iconst C (nI 0) dX8_read_85 (by decide) ?_
              refine r_put C (M2 := (mI (mA (saveM (mI M 135 7 (nI 0)) s) 136 (rdR (M.1 136) da db J)) 135 5 (nI 0))) (Cn := RX8) (T := TX8) (N := 18) (id := 135) (by decide) inw_X8 tyX8_ok nmX8 rfl rfl 5 (by decide) rfl fl_X8_168 rfl rfl (rfl) (Nat.le_of_ble_eq_true rfl) (fun j hj => ⟨mI_ne _ hj, rfl⟩) rfl dX8_read_86 ?_
              refine r_aload_n C dX8_read_89 rfl 1 rfl ?_
              refine r_pcallV_i (nA := 0) C (Nat.le_of_ble_eq_true rfl) [] (c_X8_edges l D cs ad (mI (mA (saveM (mI M 135 7 (nI 0)) s) 136 (rdR (M.1 136) da db J)) 135 5 (nI 0))  n ((rdR_n J).trans hn) hn8) (tt_V ml_X8_120 im_X8_edges se_X8_edges in_X8 co_X8_edges) ⟨rfl, rfl⟩ ⟨rfl, by decide, by decide, by decide⟩ ⟨Nat.le_of_ble_eq_true rfl, Nat.le_of_ble_eq_true rfl⟩ (by decide) rfl rfl rfl rfl rfl (Nat.le_of_ble_eq_true rfl) dX8_read_90 ?_
              refine r_topi (w := (edz ((mI (mA (saveM (mI M 135 7 (nI 0)) s) 136 (rdR (M.1 136) da db J)) 135 5 (nI 0)).1 136) n)) rfl ?_
              exact E 0 _ _ _ _ (Nat.le_of_ble_eq_true rfl) dX8_read_93 (⟨rfl, rfl⟩)
            ·
              have hab9 := hab j (by omega)
              refine r_aload_n C dX8_read_53 rfl 1 rfl ?_
              refine r_aload_n C dX8_read_54 rfl 1 rfl ?_
              refine r_get C (Cn := RX8) (T := TX8) (N := 18) (id := 135) (by decide) inw_X8 rfl rfl 6 (by decide) rfl fl_X8_22 rfl dX8_read_55 ?_
              refine r_iload_n C dX8_read_58 rfl 0 rfl ?_
              refine r_iald C (id := 140) (n := 60) (a := 3 * j) (by decide) rfl (by omega) (by decide) dX8_read_59 ?_
              refine r_topi (w := (M.1 140 (3 * j))) (rfl) ?_
              refine r_bipush C (nI 48) dX8_read_60 (by decide) ?_
              refine r_isub C dX8_read_62 ?_
              refine r_topi (w := nI (da j)) (hda j (by omega)) ?_
              refine r_aload_n C dX8_read_63 rfl 1 rfl ?_
              refine r_get C (Cn := RX8) (T := TX8) (N := 18) (id := 135) (by decide) inw_X8 rfl rfl 6 (by decide) rfl fl_X8_22 rfl dX8_read_64 ?_
              refine r_iload_n C dX8_read_67 rfl 0 rfl ?_
              refine r_iconst C (nI 1) dX8_read_68 (by decide) ?_
              refine r_iadd C dX8_read_69 ?_
              refine r_topi (nI_add (3 * j) 1) ?_
              refine r_iald C (id := 140) (n := 60) (a := (3 * j) + 1) (by decide) rfl (by omega) (by decide) dX8_read_70 ?_
              refine r_topi (w := (M.1 140 ((3 * j) + 1))) (rfl) ?_
              refine r_bipush C (nI 48) dX8_read_71 (by decide) ?_
              refine r_isub C dX8_read_73 ?_
              refine r_topi (w := nI (db j)) (hdb j (by omega)) ?_
              refine r_iconst C (nI 1) dX8_read_74 (by decide) ?_
              refine r_pcallV_v (nA := 3) C (Nat.le_of_ble_eq_true rfl) [.int (nI (da j)), .int (nI (db j)), .int (nI 1)] (c_X8_joins l D cs ad (mA (saveM (mI M 135 7 (nI 0)) s) 136 (rdR (M.1 136) da db j)) (da j) (db j) true (by omega) (by omega) (by omega)) (tt_V ml_X8_116 im_X8_joins se_X8_joins in_X8 co_X8_joins) ⟨rfl, rfl⟩ ⟨rfl, by decide, by decide, by decide⟩ ⟨Nat.le_of_ble_eq_true rfl, Nat.le_of_ble_eq_true rfl⟩ (by decide) rfl rfl rfl rfl rfl (Nat.le_of_ble_eq_true rfl) dX8_read_75 ?_
              refine r_iinc C (nI ((3 * j) + 3)) [(1, .int (nI ((3 * j) + 3))), (0, .ref (ad 135))] dX8_read_78 (j := 0) rfl (inc_n (3 * j) 3) (by decide) rfl ?_
              refine r_goto C 45 dX8_read_81 (by decide) ?_
              refine r_lv (lv2 := [(1, .int (nI (3 * (j + 1)))), (0, .ref (ad 135))]) [0, 1] rfl ?_
              refine r_mem (M2 := (mA (saveM (mI M 135 7 (nI 0)) s) 136 (rdR (M.1 136) da db (j + 1)))) (by rw [mAA]; rfl) ?_
              exact ih_j (j + 1) (by omega) (by omega)
        refine r_lv (lv2 := [(1, .int (nI (3 * 0))), (0, .ref (ad 135))]) [0, 1] rfl ?_
        refine r_mem (M2 := (mA (saveM (mI M 135 7 (nI 0)) s) 136 (rdR (M.1 136) da db 0))) (mA_id rfl) ?_
        exact Lp (J + 1) 0 (by omega) (by omega)
      · exact absurd h34 (by decide)
set_option maxRecDepth 100000 in
set_option maxHeartbeats 4000000 in
theorem c_X8_readX (l : Launch) (D : va_G) (cs : Nat → ClassId) (ad : Nat → Nat) (M : Mm) (n : Nat) (hn : M.1 136 0 = nI n) (hn8 : n ≤ 8) (len : Nat) (hl : M.1 135 5 = nI len) (hl60 : len ≤ 60) (hbad : ¬ (rut (M.1 140) n len = len ∧ len % 3 = 2)) : ∀ sz : Nat, Met l yX8_read (.code yX8_read cX8_read 2 (some .int) :: TT) { frames := 3, cells := 0, slots := 0, locals := 65 } (va_Pc [.ref (ad 135)] (fun U9 => U9.heap.size = sz ∧ wB D cs ad (fA ad sz) M U9)) (va_Qi (fun r M2 => r = nI 0 ∧ M2 = mI M 135 7 (nI 1)) (wB D cs ad (fA ad sz)) (fA ad sz)) 0 0 (fA ad sz) := by
  have hru : rut (M.1 140) n len ≤ len := fi_le _ _
  refine st_I (by decide) (Nat.le_of_ble_eq_true rfl) (fun κ C E => ?_)
  refine r_lv (lv2 := [(0, .ref (ad 135))]) [0] rfl ?_
  refine r_aload_n C dX8_read_0 rfl 0 rfl ?_
  refine r_aload_n C dX8_read_1 rfl 0 rfl ?_
  refine r_pcallV_i (nA := 0) C (Nat.le_of_ble_eq_true rfl) [] (c_X8_rightUpTo l D cs ad M  n hn hn8 len hl hl60) (tt_V ml_X8_174 im_X8_rightUpTo se_X8_rightUpTo in_X8 co_X8_rightUpTo) ⟨rfl, rfl⟩ ⟨rfl, by decide, by decide, by decide⟩ ⟨Nat.le_of_ble_eq_true rfl, Nat.le_of_ble_eq_true rfl⟩ (by decide) rfl rfl rfl rfl rfl (Nat.le_of_ble_eq_true rfl) dX8_read_2 ?_
  refine r_aload_n C dX8_read_5 rfl 0 rfl ?_
  refine r_get C (Cn := RX8) (T := TX8) (N := 18) (id := 135) (by decide) inw_X8 rfl rfl 5 (by decide) rfl fl_X8_168 rfl dX8_read_6 ?_
  refine r_topi hl ?_
  refine r_icmpN_ne C 26 dX8_read_9 (by decide) (by omega) (by omega) (fun h9 => ?_) (fun h9 => ?_)
  ·
    refine r_iconst C (nI 1) dX8_read_26 (by decide) ?_
    refine r_put C (M2 := (mI M 135 7 (nI 1))) (Cn := RX8) (T := TX8) (N := 18) (id := 135) (by decide) inw_X8 tyX8_ok nmX8 rfl rfl 7 (by decide) rfl fl_X8_41 rfl rfl (rfl) (Nat.le_of_ble_eq_true rfl) (fun j hj => ⟨mI_ne _ hj, rfl⟩) rfl dX8_read_27 ?_
    refine r_aload_n C dX8_read_30 rfl 0 rfl ?_
    refine r_get C (Cn := RX8) (T := TX8) (N := 18) (id := 135) (by decide) inw_X8 rfl rfl 7 (by decide) rfl fl_X8_41 rfl dX8_read_31 ?_
    refine r_topi (w := nI 1) (rfl) ?_
    refine r_if_le C 39 dX8_read_34 (by decide) (fun h34 => ?_) (fun h34 => ?_)
    · exact absurd h34 (by decide)
    ·
      refine r_iconst C (nI 0) dX8_read_37 (by decide) ?_
      exact E 0 _ _ _ _ (Nat.le_of_ble_eq_true rfl) dX8_read_38 (⟨rfl, rfl⟩)
  ·
    refine r_aload_n C dX8_read_12 rfl 0 rfl ?_
    refine r_get C (Cn := RX8) (T := TX8) (N := 18) (id := 135) (by decide) inw_X8 rfl rfl 5 (by decide) rfl fl_X8_168 rfl dX8_read_13 ?_
    refine r_topi hl ?_
    refine r_iconst C (nI 3) dX8_read_16 (by decide) ?_
    refine r_irem C dX8_read_17 (by decide) ?_
    refine r_topi (pk_rem (a := len) (d := 3) (by omega) (by omega) (by omega)) ?_
    refine r_iconst C (nI 2) dX8_read_18 (by decide) ?_
    refine r_icmpN_ne C 26 dX8_read_19 (by decide) (by omega) (by omega) (fun h19 => ?_) (fun h19 => ?_)
    ·
      refine r_iconst C (nI 1) dX8_read_26 (by decide) ?_
      refine r_put C (M2 := (mI M 135 7 (nI 1))) (Cn := RX8) (T := TX8) (N := 18) (id := 135) (by decide) inw_X8 tyX8_ok nmX8 rfl rfl 7 (by decide) rfl fl_X8_41 rfl rfl (rfl) (Nat.le_of_ble_eq_true rfl) (fun j hj => ⟨mI_ne _ hj, rfl⟩) rfl dX8_read_27 ?_
      refine r_aload_n C dX8_read_30 rfl 0 rfl ?_
      refine r_get C (Cn := RX8) (T := TX8) (N := 18) (id := 135) (by decide) inw_X8 rfl rfl 7 (by decide) rfl fl_X8_41 rfl dX8_read_31 ?_
      refine r_topi (w := nI 1) (rfl) ?_
      refine r_if_le C 39 dX8_read_34 (by decide) (fun h34 => ?_) (fun h34 => ?_)
      · exact absurd h34 (by decide)
      ·
        refine r_iconst C (nI 0) dX8_read_37 (by decide) ?_
        exact E 0 _ _ _ _ (Nat.le_of_ble_eq_true rfl) dX8_read_38 (⟨rfl, rfl⟩)
    ·
      exact absurd ⟨h9, h19⟩ hbad
