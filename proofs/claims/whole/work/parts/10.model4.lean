/-! ===== the reference's changes, on (written by wip/whole/gen/model4.py) ===== -/
def cbA (z : Nat → Int32) (n k : Nat) : Nat → Int32 := fun j => if (2 + n ≤ j ∧ j < 2 + k) ∨ (10 + n ≤ j ∧ j < 10 + k) ∨ (18 + 4 * n ≤ j ∧ j < 18 + 4 * k) then nI 0 else z j
def cbB (z : Nat → Int32) (n k p : Nat) : Nat → Int32 := fun j => if (2 + n ≤ j ∧ j < 2 + (k + 1)) ∨ (10 + n ≤ j ∧ j < 10 + (k + 1)) ∨ (18 + 4 * n ≤ j ∧ j < 18 + 4 * k + p) then nI 0 else z j
theorem cbA_0 (z : Nat → Int32) (n : Nat) : cbA z n n = z := by funext j; unfold cbA; rw [if_neg (by omega)]
theorem cbB_0 {z : Nat → Int32} {n k : Nat} (h : n ≤ k) (hk : k < 8) : upd (upd (cbA z n k) (2 + k) (nI 0)) (10 + k) (nI 0) = cbB z n k 0 := by
  funext j; simp only [cbA, cbB, upd]; repeat' split
  all_goals first | rfl | (exfalso; omega)
theorem cbB_s {z : Nat → Int32} {n k p : Nat} (h : n ≤ k) (hk : k < 8) (hp : p < 4) : upd (cbB z n k p) (18 + 4 * k + p) (nI 0) = cbB z n k (p + 1) := by
  funext j; simp only [cbB, upd]; repeat' split
  all_goals first | rfl | (exfalso; omega)
theorem cbB_4 {z : Nat → Int32} {n k : Nat} : cbB z n k 4 = cbA z n (k + 1) := by
  funext j; simp only [cbA, cbB]; repeat' split
  all_goals first | rfl | (exfalso; omega)
/-- the row with the vertices v .. k - 1 moved down by one, and one vertex less -/
def rmA (z : Nat → Int32) (n v k : Nat) : Nat → Int32 := fun j => if j = 0 then nI (n - 1) else if (2 + v ≤ j ∧ j < 2 + k) ∨ (10 + v ≤ j ∧ j < 10 + k) then z (j + 1) else if 18 + 4 * v ≤ j ∧ j < 18 + 4 * k then z (j + 4) else z j
def rmB (z : Nat → Int32) (n v k p : Nat) : Nat → Int32 := fun j => if j = 0 then nI (n - 1) else if (2 + v ≤ j ∧ j < 2 + (k + 1)) ∨ (10 + v ≤ j ∧ j < 10 + (k + 1)) then z (j + 1) else if 18 + 4 * v ≤ j ∧ j < 18 + 4 * k + p then z (j + 4) else z j
theorem rmA_0 (z : Nat → Int32) (n v : Nat) : upd z 0 (nI (n - 1)) = rmA z n v v := by
  funext j; simp only [rmA, upd]; repeat' split
  all_goals first | rfl | (exfalso; omega)
theorem rmB_0 {z : Nat → Int32} {n v k : Nat} (h : v ≤ k) (hk : k < 7) : upd (upd (rmA z n v k) (2 + k) (z (2 + k + 1))) (10 + k) (z (10 + k + 1)) = rmB z n v k 0 := by
  funext j; simp only [rmA, rmB, upd]; repeat' split
  all_goals first | rfl | (exfalso; omega) | (subst_vars; congr 1; done) | (congr 1; omega)
theorem rmB_s {z : Nat → Int32} {n v k p : Nat} (h : v ≤ k) (hk : k < 7) (hp : p < 4) : upd (rmB z n v k p) (18 + 4 * k + p) (z (18 + 4 * (k + 1) + p)) = rmB z n v k (p + 1) := by
  funext j; simp only [rmB, upd]; repeat' split
  all_goals first | rfl | (exfalso; omega) | (congr 1; omega)
theorem rmB_4 {z : Nat → Int32} {n v k : Nat} : rmB z n v k 4 = rmA z n v (k + 1) := by
  funext j; simp only [rmA, rmB]; repeat' split
  all_goals first | rfl | (exfalso; omega)
/-- .. with the vertex v taken out of the first k masks -/
def rmC (z : Nat → Int32) (v k : Nat) : Nat → Int32 := fun j => if 10 ≤ j ∧ j < 10 + k then wo (z j) v else z j
theorem rmC_0 (z : Nat → Int32) (v : Nat) : rmC z v 0 = z := by funext j; unfold rmC; rw [if_neg (by omega)]
theorem rmC_s (z : Nat → Int32) (v k : Nat) : upd (rmC z v k) (10 + k) (wo (z (10 + k)) v) = rmC z v (k + 1) := by
  funext j; simp only [rmC, upd]; repeat' split
  all_goals first | rfl | (exfalso; omega) | (subst_vars; rfl)
/-- the row after a removal -/
def rmR (z : Nat → Int32) (n v : Nat) : Nat → Int32 := cbA (rmC (rmA z n v (n - 1)) v (n - 1)) (n - 1) 8
theorem rmA_w {z : Nat → Int32} {n v k : Nat} (hk : k < 7) : rmA z n v k (2 + k + 1) = z (2 + k + 1) := by
  unfold rmA; rw [if_neg (by omega), if_neg (by omega), if_neg (by omega)]
theorem rmA_b {z : Nat → Int32} {n v k : Nat} (hk : k < 7) : rmA z n v k (10 + k + 1) = z (10 + k + 1) := by
  unfold rmA; rw [if_neg (by omega), if_neg (by omega), if_neg (by omega)]
theorem rmB_l {z : Nat → Int32} {n v k p : Nat} (hk : k < 7) (hp : p < 4) : rmB z n v k p (18 + 4 * (k + 1) + p) = z (18 + 4 * (k + 1) + p) := by
  unfold rmB; rw [if_neg (by omega), if_neg (by omega), if_neg (by omega)]
theorem rmC_at0 {z : Nat → Int32} {v k : Nat} : rmC z v k 0 = z 0 := by
  unfold rmC; rw [if_neg (by omega)]
theorem rmC_at {z : Nat → Int32} {v k : Nat} : rmC z v k (10 + k) = z (10 + k) := by
  unfold rmC; rw [if_neg (by omega)]
theorem cbA_at0 {z : Nat → Int32} {n k : Nat} : cbA z n k 0 = z 0 := by
  unfold cbA; rw [if_neg (by omega)]
theorem rmA_00 (z : Nat → Int32) (n v k : Nat) : rmA z n v k 0 = nI (n - 1) := rfl
def csz (t : Nat → Int32) (n k : Nat) : Bool := if k % 3 = 0 then wit (t k - nI 48) (nI 0) (nI n - nI 2) else if k % 3 = 1 then wit (t k - nI 48) ((t (k - 1) - nI 48) + nI 1) (nI n - nI 1) else decide (t k = nI 44)
def rut (t : Nat → Int32) (n len : Nat) : Nat := fi (fun k => !csz t n k) len
def rdR (z : Nat → Int32) (da db : Nat → Nat) : Nat → Nat → Int32
  | 0 => z
  | j + 1 => joR (rdR z da db j) (da j) (db j) true
theorem rdR_n {z : Nat → Int32} {da db : Nat → Nat} : ∀ j, rdR z da db j 0 = z 0
  | 0 => rfl
  | j + 1 => by
    show joR (rdR z da db j) (da j) (db j) true 0 = z 0
    unfold joR upd
    rw [if_neg (by omega), if_neg (by omega)]
    exact rdR_n j
/-- a row overwritten below k by the part of another one that begins at d -/
def ovR (z h : Nat → Int32) (d k : Nat) : Nat → Int32 := fun j => if j < k then h (d + j) else z j
theorem ovR_0 (z h : Nat → Int32) (d : Nat) : ovR z h d 0 = z := by funext j; unfold ovR; rw [if_neg (by omega)]
theorem ovR_s (z h : Nat → Int32) (d k : Nat) : upd (ovR z h d k) k (h (d + k)) = ovR z h d (k + 1) := by
  funext j; simp only [ovR, upd]; repeat' split
  all_goals first | rfl | (exfalso; omega) | (subst_vars; rfl)
set_option maxRecDepth 100000 in
set_option maxHeartbeats 4000000 in
theorem c_X8_clearBehind (l : Launch) (D : va_G) (cs : Nat → ClassId) (ad : Nat → Nat) (M : Mm) (n : Nat) (hn : M.1 136 0 = nI n) (hn8 : n ≤ 8) : ∀ sz : Nat, Met l yX8_clearBehind (.code yX8_clearBehind cX8_clearBehind 3 none :: TT) { frames := 1, cells := 0, slots := 0, locals := 20 } (va_Pc [.ref (ad 135)] (fun U9 => U9.heap.size = sz ∧ wB D cs ad (fA ad sz) M U9)) (va_Qv (fun M2 => M2 = mA M 136 (cbA (M.1 136) n 8)) (wB D cs ad (fA ad sz)) (fA ad sz)) 0 0 (fA ad sz) := by
  refine st_V (by decide) (Nat.le_of_ble_eq_true rfl) (fun κ C E => ?_)
  refine r_lv (lv2 := [(0, .ref (ad 135))]) [0] rfl ?_
  refine r_aload_n C dX8_clearBehind_0 rfl 0 rfl ?_
  refine r_get C (Cn := RX8) (T := TX8) (N := 18) (id := 135) (by decide) inw_X8 rfl rfl 0 (by decide) rfl fl_X8_7 rfl dX8_clearBehind_1 ?_
  refine r_iconst C (nI 0) dX8_clearBehind_4 (by decide) ?_
  refine r_iald C (id := 136) (n := 55) (a := 0) (by decide) rfl (by decide) (by decide) dX8_clearBehind_5 ?_
  refine r_topi hn ?_
  refine r_istore_n C [(1, .int (nI n)), (0, .ref (ad 135))] dX8_clearBehind_6 rfl (by decide) rfl ?_
  have Lp : ∀ (f k : Nat), 8 + 1 ≤ k + f → k ≤ 8 → n ≤ k → VV l D cs ad 3 κ 0 (mA M 136 (cbA (M.1 136) n k)) 7 [(1, .int (nI k)), (0, .ref (ad 135))] [] := by
    intro f
    induction f with
    | zero => intro k hk1 hk2 hI; exact absurd hk1 (by omega)
    | succ f ih =>
      intro k hk1 hk2 hI
      refine r_iload_n C dX8_clearBehind_7 rfl 0 rfl ?_
      refine r_bipush C (nI 8) dX8_clearBehind_8 (by decide) ?_
      refine r_icmpN_ge C 63 dX8_clearBehind_10 (by decide) (by omega) (by omega) (fun h10 => ?_) (fun h10 => ?_)
      ·
        have hk9 : 8 = k := by omega
        subst hk9
        exact E 0 _ _ _ (Nat.le_of_ble_eq_true rfl) dX8_clearBehind_63 (rfl)
      ·
        refine r_aload_n C dX8_clearBehind_13 rfl 1 rfl ?_
        refine r_get C (Cn := RX8) (T := TX8) (N := 18) (id := 135) (by decide) inw_X8 rfl rfl 0 (by decide) rfl fl_X8_7 rfl dX8_clearBehind_14 ?_
        refine r_iconst C (nI 2) dX8_clearBehind_17 (by decide) ?_
        refine r_iload_n C dX8_clearBehind_18 rfl 0 rfl ?_
        refine r_iadd C dX8_clearBehind_19 ?_
        refine r_topi (nI_add 2 k) ?_
        refine r_iconst C (nI 0) dX8_clearBehind_20 (by decide) ?_
        refine r_iast C (id := 136) (n := 55) (a := 2 + k) (by decide) (fun _ => rfl) (by omega) (by decide) dX8_clearBehind_21 ?_
        refine r_aload_n C dX8_clearBehind_22 rfl 1 rfl ?_
        refine r_get C (Cn := RX8) (T := TX8) (N := 18) (id := 135) (by decide) inw_X8 rfl rfl 0 (by decide) rfl fl_X8_7 rfl dX8_clearBehind_23 ?_
        refine r_bipush C (nI 10) dX8_clearBehind_26 (by decide) ?_
        refine r_iload_n C dX8_clearBehind_28 rfl 0 rfl ?_
        refine r_iadd C dX8_clearBehind_29 ?_
        refine r_topi (nI_add 10 k) ?_
        refine r_iconst C (nI 0) dX8_clearBehind_30 (by decide) ?_
        refine r_iast C (id := 136) (n := 55) (a := 10 + k) (by decide) (fun _ => rfl) (by omega) (by decide) dX8_clearBehind_31 ?_
        refine r_iconst C (nI 0) dX8_clearBehind_32 (by decide) ?_
        refine r_istore_n C [(2, .int (nI 0)), (1, .int (nI k)), (0, .ref (ad 135))] dX8_clearBehind_33 rfl (by decide) rfl ?_
        have Lq : ∀ (f_p p : Nat), 4 + 1 ≤ p + f_p → p ≤ 4 → VV l D cs ad 3 κ 0 (mA M 136 (cbB (M.1 136) n k p)) 34 [(2, .int (nI p)), (1, .int (nI k)), (0, .ref (ad 135))] [] := by
          intro f_p
          induction f_p with
          | zero => intro p hk1_p hk2_p; exact absurd hk1_p (by omega)
          | succ f_p ih_p =>
            intro p hk1_p hk2_p
            refine r_iload_n C dX8_clearBehind_34 rfl 0 rfl ?_
            refine r_iconst C (nI 4) dX8_clearBehind_35 (by decide) ?_
            refine r_icmpN_ge C 57 dX8_clearBehind_36 (by decide) (by omega) (by omega) (fun h36 => ?_) (fun h36 => ?_)
            ·
              have hk9 : 4 = p := by omega
              subst hk9
              refine r_iinc C (nI (k + 1)) [(1, .int (nI (k + 1))), (2, .int (nI 4)), (0, .ref (ad 135))] dX8_clearBehind_57 (j := 1) rfl (inc_n k 1) (by decide) rfl ?_
              refine r_goto C 7 dX8_clearBehind_60 (by decide) ?_
              refine r_lv (lv2 := [(1, .int (nI (k + 1))), (0, .ref (ad 135))]) [0, 2] rfl ?_
              refine r_mem (M2 := (mA M 136 (cbA (M.1 136) n (k + 1)))) (by rw [cbB_4]) ?_
              exact ih (k + 1) (by omega) (by omega) (by omega)
            ·
              refine r_aload_n C dX8_clearBehind_39 rfl 2 rfl ?_
              refine r_get C (Cn := RX8) (T := TX8) (N := 18) (id := 135) (by decide) inw_X8 rfl rfl 0 (by decide) rfl fl_X8_7 rfl dX8_clearBehind_40 ?_
              refine r_iload_n C dX8_clearBehind_43 rfl 1 rfl ?_
              refine r_pcallS_i (nA := 1) C (Nat.le_of_ble_eq_true rfl) [.int (nI k)] (c_X8_labelAt l D cs ad (mA M 136 (cbB (M.1 136) n k p)) k ) (tt_S ml_X8_56 st_X8_labelAt in_X8 co_X8_labelAt) ⟨rfl, rfl⟩ ⟨rfl, by decide, by decide, by decide⟩ ⟨Nat.le_of_ble_eq_true rfl, Nat.le_of_ble_eq_true rfl⟩ rfl rfl (Nat.le_of_ble_eq_true rfl) dX8_clearBehind_44 ?_
              refine r_topi (w := nI (18 + 4 * k)) rfl ?_
              refine r_iload_n C dX8_clearBehind_47 rfl 0 rfl ?_
              refine r_iadd C dX8_clearBehind_48 ?_
              refine r_topi (nI_add (18 + 4 * k) p) ?_
              refine r_iconst C (nI 0) dX8_clearBehind_49 (by decide) ?_
              refine r_iast C (id := 136) (n := 55) (a := (18 + 4 * k) + p) (by decide) (fun _ => rfl) (by omega) (by decide) dX8_clearBehind_50 ?_
              refine r_iinc C (nI (p + 1)) [(2, .int (nI (p + 1))), (1, .int (nI k)), (0, .ref (ad 135))] dX8_clearBehind_51 (j := 0) rfl (inc_n p 1) (by decide) rfl ?_
              refine r_goto C 34 dX8_clearBehind_54 (by decide) ?_
              refine r_lv (lv2 := [(2, .int (nI (p + 1))), (1, .int (nI k)), (0, .ref (ad 135))]) [0, 1, 2] rfl ?_
              refine r_mem (M2 := (mA M 136 (cbB (M.1 136) n k (p + 1)))) (by rw [mIA, cbB_s hI (by omega) (by omega)]) ?_
              exact ih_p (p + 1) (by omega) (by omega)
        refine r_lv (lv2 := [(2, .int (nI 0)), (1, .int (nI k)), (0, .ref (ad 135))]) [0, 1, 2] rfl ?_
        refine r_mem (M2 := (mA M 136 (cbB (M.1 136) n k 0))) (by rw [mIA, mIA, cbB_0 hI (by omega)]) ?_
        exact Lq (4 + 1) 0 (by omega) (by omega)
  refine r_lv (lv2 := [(1, .int (nI n)), (0, .ref (ad 135))]) [0, 1] rfl ?_
  refine r_mem (M2 := (mA M 136 (cbA (M.1 136) n n))) (mA_id (cbA_0 _ _)) ?_
  exact Lp (8 + 1) n (by omega) (by omega) (by omega)
set_option maxRecDepth 100000 in
set_option maxHeartbeats 4000000 in
theorem c_X8_remove (l : Launch) (D : va_G) (cs : Nat → ClassId) (ad : Nat → Nat) (M : Mm) (n : Nat) (hn : M.1 136 0 = nI n) (hn8 : n ≤ 8) (s : Nat) (hs : M.1 135 1 = nI s) (hs6 : s ≤ 6) (v : Nat) (hv : v < n) (hn2 : 2 ≤ n) : ∀ sz : Nat, Met l yX8_remove (.code yX8_remove cX8_remove 4 (some .int) :: TT) { frames := 2, cells := 0, slots := 0, locals := 43 } (va_Pc [.ref (ad 135), .int (nI v)] (fun U9 => U9.heap.size = sz ∧ wB D cs ad (fA ad sz) M U9)) (va_Qi (fun r M2 => r = nI (n - 1) ∧ M2 = mA (saveM (mI M 135 7 (nI 0)) s) 136 (rmR (M.1 136) n v)) (wB D cs ad (fA ad sz)) (fA ad sz)) 0 0 (fA ad sz) := by
  have w1 := wit_n hv (by omega)
  refine st_I (by decide) (Nat.le_of_ble_eq_true rfl) (fun κ C E => ?_)
  refine r_lv (lv2 := [(0, .ref (ad 135)), (1, .int (nI v))]) [0, 1] rfl ?_
  refine r_aload_n C dX8_remove_0 rfl 0 rfl ?_
  refine r_aload_n C dX8_remove_1 rfl 0 rfl ?_
  refine r_iload_n C dX8_remove_2 rfl 1 rfl ?_
  refine r_pcallV_i (nA := 1) C (Nat.le_of_ble_eq_true rfl) [.int (nI v)] (c_X8_isVertex l D cs ad M (nI v) n hn hn8) (tt_V ml_X8_113 im_X8_isVertex se_X8_isVertex in_X8 co_X8_isVertex) ⟨rfl, rfl⟩ ⟨rfl, by decide, by decide, by decide⟩ ⟨Nat.le_of_ble_eq_true rfl, Nat.le_of_ble_eq_true rfl⟩ (by decide) rfl rfl rfl rfl rfl (Nat.le_of_ble_eq_true rfl) dX8_remove_3 ?_
  refine r_ifB_ne C 13 dX8_remove_6 (by decide) (fun h6 => ?_) (fun h6 => ?_)
  ·
    refine r_aload_n C dX8_remove_13 rfl 0 rfl ?_
    refine r_get C (Cn := RX8) (T := TX8) (N := 18) (id := 135) (by decide) inw_X8 rfl rfl 0 (by decide) rfl fl_X8_7 rfl dX8_remove_14 ?_
    refine r_iconst C (nI 0) dX8_remove_17 (by decide) ?_
    refine r_iald C (id := 136) (n := 55) (a := 0) (by decide) rfl (by decide) (by decide) dX8_remove_18 ?_
    refine r_topi hn ?_
    refine r_iconst C (nI 1) dX8_remove_19 (by decide) ?_
    refine r_icmpN_ne C 27 dX8_remove_20 (by decide) (by omega) (by omega) (fun h20 => ?_) (fun h20 => ?_)
    ·
      refine r_iconst C (nI 0) dX8_remove_27 (by decide) ?_
      refine r_put C (M2 := (mI M 135 7 (nI 0))) (Cn := RX8) (T := TX8) (N := 18) (id := 135) (by decide) inw_X8 tyX8_ok nmX8 rfl rfl 7 (by decide) rfl fl_X8_41 rfl rfl (rfl) (Nat.le_of_ble_eq_true rfl) (fun j hj => ⟨mI_ne _ hj, rfl⟩) rfl dX8_remove_28 ?_
      refine r_aload_n C dX8_remove_31 rfl 0 rfl ?_
      refine r_get C (Cn := RX8) (T := TX8) (N := 18) (id := 135) (by decide) inw_X8 rfl rfl 7 (by decide) rfl fl_X8_41 rfl dX8_remove_32 ?_
      refine r_topi (w := nI 0) (rfl) ?_
      refine r_if_le C 40 dX8_remove_35 (by decide) (fun h35 => ?_) (fun h35 => ?_)
      ·
        refine r_aload_n C dX8_remove_40 rfl 0 rfl ?_
        refine r_pcallV_v (nA := 0) C (Nat.le_of_ble_eq_true rfl) [] (c_X8_save l D cs ad (mI M 135 7 (nI 0))  s hs hs6) (tt_V ml_X8_110 im_X8_save se_X8_save in_X8 co_X8_save) ⟨rfl, rfl⟩ ⟨rfl, by decide, by decide, by decide⟩ ⟨Nat.le_of_ble_eq_true rfl, Nat.le_of_ble_eq_true rfl⟩ (by decide) rfl rfl rfl rfl rfl (Nat.le_of_ble_eq_true rfl) dX8_remove_41 ?_
        refine r_aload_n C dX8_remove_44 rfl 0 rfl ?_
        refine r_get C (Cn := RX8) (T := TX8) (N := 18) (id := 135) (by decide) inw_X8 rfl rfl 0 (by decide) rfl fl_X8_7 rfl dX8_remove_45 ?_
        refine r_iconst C (nI 0) dX8_remove_48 (by decide) ?_
        refine r_dup2_11 C dX8_remove_49 rfl rfl ?_
        refine r_iald C (id := 136) (n := 55) (a := 0) (by decide) rfl (by decide) (by decide) dX8_remove_50 ?_
        refine r_topi (w := (M.1 136 0)) (rfl) ?_
        refine r_topi hn ?_
        refine r_iconst C (nI 1) dX8_remove_51 (by decide) ?_
        refine r_isub C dX8_remove_52 ?_
        refine r_topi (pk_sub (a := n) (b := 1) (by omega)) ?_
        refine r_iast C (id := 136) (n := 55) (a := 0) (by decide) (fun _ => rfl) (by decide) (by decide) dX8_remove_53 ?_
        refine r_iload_n C dX8_remove_54 rfl 1 rfl ?_
        refine r_istore_n C [(2, .int (nI v)), (0, .ref (ad 135)), (1, .int (nI v))] dX8_remove_55 rfl (by decide) rfl ?_
        have Lp : ∀ (f k : Nat), (n - 1) + 1 ≤ k + f → k ≤ (n - 1) → v ≤ k → VV l D cs ad 4 κ 0 (mA (saveM (mI M 135 7 (nI 0)) s) 136 (rmA (M.1 136) n v k)) 56 [(2, .int (nI k)), (0, .ref (ad 135)), (1, .int (nI v))] [] := by
          intro f
          induction f with
          | zero => intro k hk1 hk2 hI; exact absurd hk1 (by omega)
          | succ f ih =>
            intro k hk1 hk2 hI
            refine r_iload_n C dX8_remove_56 rfl 0 rfl ?_
            refine r_aload_n C dX8_remove_57 rfl 1 rfl ?_
            refine r_get C (Cn := RX8) (T := TX8) (N := 18) (id := 135) (by decide) inw_X8 rfl rfl 0 (by decide) rfl fl_X8_7 rfl dX8_remove_58 ?_
            refine r_iconst C (nI 0) dX8_remove_61 (by decide) ?_
            refine r_iald C (id := 136) (n := 55) (a := 0) (by decide) rfl (by decide) (by decide) dX8_remove_62 ?_
            refine r_topi (w := nI (n - 1)) (rfl) ?_
            refine r_icmpN_ge C 147 dX8_remove_63 (by decide) (by omega) (by omega) (fun h63 => ?_) (fun h63 => ?_)
            ·
              have hk9 : (n - 1) = k := by omega
              subst hk9
              refine r_iconst C (nI 0) dX8_remove_147 (by decide) ?_
              refine r_istore_n C [(2, .int (nI 0)), (0, .ref (ad 135)), (1, .int (nI v))] dX8_remove_148 rfl (by decide) rfl ?_
              have Lr : ∀ (f k : Nat), (n - 1) + 1 ≤ k + f → k ≤ (n - 1) → VV l D cs ad 4 κ 0 (mA (saveM (mI M 135 7 (nI 0)) s) 136 (rmC (rmA (M.1 136) n v (n - 1)) v k)) 149 [(2, .int (nI k)), (0, .ref (ad 135)), (1, .int (nI v))] [] := by
                intro f
                induction f with
                | zero => intro k hk1 hk2; exact absurd hk1 (by omega)
                | succ f ih =>
                  intro k hk1 hk2
                  refine r_iload_n C dX8_remove_149 rfl 0 rfl ?_
                  refine r_aload_n C dX8_remove_150 rfl 1 rfl ?_
                  refine r_get C (Cn := RX8) (T := TX8) (N := 18) (id := 135) (by decide) inw_X8 rfl rfl 0 (by decide) rfl fl_X8_7 rfl dX8_remove_151 ?_
                  refine r_iconst C (nI 0) dX8_remove_154 (by decide) ?_
                  refine r_iald C (id := 136) (n := 55) (a := 0) (by decide) rfl (by decide) (by decide) dX8_remove_155 ?_
                  refine r_topi (w := nI (n - 1)) ((rmC_at0 (z := rmA (M.1 136) n v (n - 1)) (v := v) (k := k)).trans rfl) ?_
                  refine r_icmpN_ge C 187 dX8_remove_156 (by decide) (by omega) (by omega) (fun h156 => ?_) (fun h156 => ?_)
                  ·
                    have hk9 : (n - 1) = k := by omega
                    subst hk9
                    refine r_aload_n C dX8_remove_187 rfl 1 rfl ?_
                    refine r_pcallV_v (nA := 0) C (Nat.le_of_ble_eq_true rfl) [] (c_X8_clearBehind l D cs ad (mA (saveM (mI M 135 7 (nI 0)) s) 136 (rmC (rmA (M.1 136) n v (n - 1)) v (n - 1)))  (n - 1) rfl (by omega)) (tt_V ml_X8_126 im_X8_clearBehind se_X8_clearBehind in_X8 co_X8_clearBehind) ⟨rfl, rfl⟩ ⟨rfl, by decide, by decide, by decide⟩ ⟨Nat.le_of_ble_eq_true rfl, Nat.le_of_ble_eq_true rfl⟩ (by decide) rfl rfl rfl rfl rfl (Nat.le_of_ble_eq_true rfl) dX8_remove_188 ?_
                    refine r_aload_n C dX8_remove_191 rfl 1 rfl ?_
                    refine r_get C (Cn := RX8) (T := TX8) (N := 18) (id := 135) (by decide) inw_X8 rfl rfl 0 (by decide) rfl fl_X8_7 rfl dX8_remove_192 ?_
                    refine r_iconst C (nI 0) dX8_remove_195 (by decide) ?_
                    refine r_iald C (id := 136) (n := 55) (a := 0) (by decide) rfl (by decide) (by decide) dX8_remove_196 ?_
                    refine r_topi (w := nI (n - 1)) ((cbA_at0 (z := rmC (rmA (M.1 136) n v (n - 1)) v (n - 1)) (n := n - 1) (k := 8)).trans ((rmC_at0 (z := rmA (M.1 136) n v (n - 1)) (v := v) (k := (n - 1))).trans rfl)) ?_
                    exact E 0 _ _ _ _ (Nat.le_of_ble_eq_true rfl) dX8_remove_197 (⟨rfl, by rw [mAA]; rfl⟩)
                  ·
                    refine r_aload_n C dX8_remove_159 rfl 1 rfl ?_
                    refine r_get C (Cn := RX8) (T := TX8) (N := 18) (id := 135) (by decide) inw_X8 rfl rfl 0 (by decide) rfl fl_X8_7 rfl dX8_remove_160 ?_
                    refine r_bipush C (nI 10) dX8_remove_163 (by decide) ?_
                    refine r_iload_n C dX8_remove_165 rfl 0 rfl ?_
                    refine r_iadd C dX8_remove_166 ?_
                    refine r_topi (nI_add 10 k) ?_
                    refine r_aload_n C dX8_remove_167 rfl 1 rfl ?_
                    refine r_get C (Cn := RX8) (T := TX8) (N := 18) (id := 135) (by decide) inw_X8 rfl rfl 0 (by decide) rfl fl_X8_7 rfl dX8_remove_168 ?_
                    refine r_bipush C (nI 10) dX8_remove_171 (by decide) ?_
                    refine r_iload_n C dX8_remove_173 rfl 0 rfl ?_
                    refine r_iadd C dX8_remove_174 ?_
                    refine r_topi (nI_add 10 k) ?_
                    refine r_iald C (id := 136) (n := 55) (a := 10 + k) (by decide) rfl (by omega) (by decide) dX8_remove_175 ?_
                    refine r_topi (w := (rmA (M.1 136) n v (n - 1) (10 + k))) (rmC_at) ?_
                    refine r_iload_n C dX8_remove_176 rfl 2 rfl ?_
                    refine r_pcallS_i (nA := 2) C (Nat.le_of_ble_eq_true rfl) [.int (rmA (M.1 136) n v (n - 1) (10 + k)), .int (nI v)] (c_X8_without l D cs ad (mA (saveM (mI M 135 7 (nI 0)) s) 136 (rmC (rmA (M.1 136) n v (n - 1)) v k)) (rmA (M.1 136) n v (n - 1) (10 + k)) v (by omega)) (tt_S ml_X8_123 st_X8_without in_X8 co_X8_without) ⟨rfl, rfl⟩ ⟨rfl, by decide, by decide, by decide⟩ ⟨Nat.le_of_ble_eq_true rfl, Nat.le_of_ble_eq_true rfl⟩ rfl rfl (Nat.le_of_ble_eq_true rfl) dX8_remove_177 ?_
                    refine r_topi (w := (wo (rmA (M.1 136) n v (n - 1) (10 + k)) v)) rfl ?_
                    refine r_iast C (id := 136) (n := 55) (a := 10 + k) (by decide) (fun _ => rfl) (by omega) (by decide) dX8_remove_180 ?_
                    refine r_iinc C (nI (k + 1)) [(2, .int (nI (k + 1))), (0, .ref (ad 135)), (1, .int (nI v))] dX8_remove_181 (j := 0) rfl (inc_n k 1) (by decide) rfl ?_
                    refine r_goto C 149 dX8_remove_184 (by decide) ?_
                    refine r_lv (lv2 := [(2, .int (nI (k + 1))), (0, .ref (ad 135)), (1, .int (nI v))]) [0, 1, 2] rfl ?_
                    refine r_mem (M2 := (mA (saveM (mI M 135 7 (nI 0)) s) 136 (rmC (rmA (M.1 136) n v (n - 1)) v (k + 1)))) (by rw [mIA, rmC_s]) ?_
                    exact ih (k + 1) (by omega) (by omega)
              refine r_lv (lv2 := [(2, .int (nI 0)), (0, .ref (ad 135)), (1, .int (nI v))]) [0, 1, 2] rfl ?_
              refine r_mem (M2 := (mA (saveM (mI M 135 7 (nI 0)) s) 136 (rmC (rmA (M.1 136) n v (n - 1)) v 0))) (by rw [rmC_0]) ?_
              exact Lr ((n - 1) + 1) 0 (by omega) (by omega)
            ·
              refine r_aload_n C dX8_remove_66 rfl 1 rfl ?_
              refine r_get C (Cn := RX8) (T := TX8) (N := 18) (id := 135) (by decide) inw_X8 rfl rfl 0 (by decide) rfl fl_X8_7 rfl dX8_remove_67 ?_
              refine r_iconst C (nI 2) dX8_remove_70 (by decide) ?_
              refine r_iload_n C dX8_remove_71 rfl 0 rfl ?_
              refine r_iadd C dX8_remove_72 ?_
              refine r_topi (nI_add 2 k) ?_
              refine r_aload_n C dX8_remove_73 rfl 1 rfl ?_
              refine r_get C (Cn := RX8) (T := TX8) (N := 18) (id := 135) (by decide) inw_X8 rfl rfl 0 (by decide) rfl fl_X8_7 rfl dX8_remove_74 ?_
              refine r_iconst C (nI 2) dX8_remove_77 (by decide) ?_
              refine r_iload_n C dX8_remove_78 rfl 0 rfl ?_
              refine r_iadd C dX8_remove_79 ?_
              refine r_topi (nI_add 2 k) ?_
              refine r_iconst C (nI 1) dX8_remove_80 (by decide) ?_
              refine r_iadd C dX8_remove_81 ?_
              refine r_topi (nI_add (2 + k) 1) ?_
              refine r_iald C (id := 136) (n := 55) (a := (2 + k) + 1) (by decide) rfl (by omega) (by decide) dX8_remove_82 ?_
              refine r_topi (w := (M.1 136 (2 + k + 1))) (rmA_w (n := n) (by omega)) ?_
              refine r_iast C (id := 136) (n := 55) (a := 2 + k) (by decide) (fun _ => rfl) (by omega) (by decide) dX8_remove_83 ?_
              refine r_aload_n C dX8_remove_84 rfl 1 rfl ?_
              refine r_get C (Cn := RX8) (T := TX8) (N := 18) (id := 135) (by decide) inw_X8 rfl rfl 0 (by decide) rfl fl_X8_7 rfl dX8_remove_85 ?_
              refine r_bipush C (nI 10) dX8_remove_88 (by decide) ?_
              refine r_iload_n C dX8_remove_90 rfl 0 rfl ?_
              refine r_iadd C dX8_remove_91 ?_
              refine r_topi (nI_add 10 k) ?_
              refine r_aload_n C dX8_remove_92 rfl 1 rfl ?_
              refine r_get C (Cn := RX8) (T := TX8) (N := 18) (id := 135) (by decide) inw_X8 rfl rfl 0 (by decide) rfl fl_X8_7 rfl dX8_remove_93 ?_
              refine r_bipush C (nI 10) dX8_remove_96 (by decide) ?_
              refine r_iload_n C dX8_remove_98 rfl 0 rfl ?_
              refine r_iadd C dX8_remove_99 ?_
              refine r_topi (nI_add 10 k) ?_
              refine r_iconst C (nI 1) dX8_remove_100 (by decide) ?_
              refine r_iadd C dX8_remove_101 ?_
              refine r_topi (nI_add (10 + k) 1) ?_
              refine r_iald C (id := 136) (n := 55) (a := (10 + k) + 1) (by decide) rfl (by omega) (by decide) dX8_remove_102 ?_
              refine r_topi (w := (M.1 136 (10 + k + 1))) (by rw [mI_eq, upd_n _ _ (by omega)]; exact rmA_b (n := n) (by omega)) ?_
              refine r_iast C (id := 136) (n := 55) (a := 10 + k) (by decide) (fun _ => rfl) (by omega) (by decide) dX8_remove_103 ?_
              refine r_iconst C (nI 0) dX8_remove_104 (by decide) ?_
              refine r_istore_n C [(3, .int (nI 0)), (2, .int (nI k)), (0, .ref (ad 135)), (1, .int (nI v))] dX8_remove_105 rfl (by decide) rfl ?_
              have Lq : ∀ (f_p p : Nat), 4 + 1 ≤ p + f_p → p ≤ 4 → VV l D cs ad 4 κ 0 (mA (saveM (mI M 135 7 (nI 0)) s) 136 (rmB (M.1 136) n v k p)) 106 [(3, .int (nI p)), (2, .int (nI k)), (0, .ref (ad 135)), (1, .int (nI v))] [] := by
                intro f_p
                induction f_p with
                | zero => intro p hk1_p hk2_p; exact absurd hk1_p (by omega)
                | succ f_p ih_p =>
                  intro p hk1_p hk2_p
                  refine r_iload_n C dX8_remove_106 rfl 0 rfl ?_
                  refine r_iconst C (nI 4) dX8_remove_107 (by decide) ?_
                  refine r_icmpN_ge C 141 dX8_remove_108 (by decide) (by omega) (by omega) (fun h108 => ?_) (fun h108 => ?_)
                  ·
                    have hk9 : 4 = p := by omega
                    subst hk9
                    refine r_iinc C (nI (k + 1)) [(2, .int (nI (k + 1))), (3, .int (nI 4)), (0, .ref (ad 135)), (1, .int (nI v))] dX8_remove_141 (j := 1) rfl (inc_n k 1) (by decide) rfl ?_
                    refine r_goto C 56 dX8_remove_144 (by decide) ?_
                    refine r_lv (lv2 := [(2, .int (nI (k + 1))), (0, .ref (ad 135)), (1, .int (nI v))]) [0, 2, 3] rfl ?_
                    refine r_mem (M2 := (mA (saveM (mI M 135 7 (nI 0)) s) 136 (rmA (M.1 136) n v (k + 1)))) (by rw [rmB_4]) ?_
                    exact ih (k + 1) (by omega) (by omega) (by omega)
                  ·
                    refine r_aload_n C dX8_remove_111 rfl 2 rfl ?_
                    refine r_get C (Cn := RX8) (T := TX8) (N := 18) (id := 135) (by decide) inw_X8 rfl rfl 0 (by decide) rfl fl_X8_7 rfl dX8_remove_112 ?_
                    refine r_iload_n C dX8_remove_115 rfl 1 rfl ?_
                    refine r_pcallS_i (nA := 1) C (Nat.le_of_ble_eq_true rfl) [.int (nI k)] (c_X8_labelAt l D cs ad (mA (saveM (mI M 135 7 (nI 0)) s) 136 (rmB (M.1 136) n v k p)) k ) (tt_S ml_X8_56 st_X8_labelAt in_X8 co_X8_labelAt) ⟨rfl, rfl⟩ ⟨rfl, by decide, by decide, by decide⟩ ⟨Nat.le_of_ble_eq_true rfl, Nat.le_of_ble_eq_true rfl⟩ rfl rfl (Nat.le_of_ble_eq_true rfl) dX8_remove_116 ?_
                    refine r_topi (w := nI (18 + 4 * k)) rfl ?_
                    refine r_iload_n C dX8_remove_119 rfl 0 rfl ?_
                    refine r_iadd C dX8_remove_120 ?_
                    refine r_topi (nI_add (18 + 4 * k) p) ?_
                    refine r_aload_n C dX8_remove_121 rfl 2 rfl ?_
                    refine r_get C (Cn := RX8) (T := TX8) (N := 18) (id := 135) (by decide) inw_X8 rfl rfl 0 (by decide) rfl fl_X8_7 rfl dX8_remove_122 ?_
                    refine r_iload_n C dX8_remove_125 rfl 1 rfl ?_
                    refine r_iconst C (nI 1) dX8_remove_126 (by decide) ?_
                    refine r_iadd C dX8_remove_127 ?_
                    refine r_topi (nI_add k 1) ?_
                    refine r_pcallS_i (nA := 1) C (Nat.le_of_ble_eq_true rfl) [.int (nI (k + 1))] (c_X8_labelAt l D cs ad (mA (saveM (mI M 135 7 (nI 0)) s) 136 (rmB (M.1 136) n v k p)) (k + 1) ) (tt_S ml_X8_56 st_X8_labelAt in_X8 co_X8_labelAt) ⟨rfl, rfl⟩ ⟨rfl, by decide, by decide, by decide⟩ ⟨Nat.le_of_ble_eq_true rfl, Nat.le_of_ble_eq_true rfl⟩ rfl rfl (Nat.le_of_ble_eq_true rfl) dX8_remove_128 ?_
                    refine r_topi (w := nI (18 + 4 * (k + 1))) rfl ?_
                    refine r_iload_n C dX8_remove_131 rfl 0 rfl ?_
                    refine r_iadd C dX8_remove_132 ?_
                    refine r_topi (nI_add (18 + 4 * (k + 1)) p) ?_
                    refine r_iald C (id := 136) (n := 55) (a := (18 + 4 * (k + 1)) + p) (by decide) rfl (by omega) (by decide) dX8_remove_133 ?_
                    refine r_topi (w := (M.1 136 (18 + 4 * (k + 1) + p))) (rmB_l (by omega) (by omega)) ?_
                    refine r_iast C (id := 136) (n := 55) (a := (18 + 4 * k) + p) (by decide) (fun _ => rfl) (by omega) (by decide) dX8_remove_134 ?_
                    refine r_iinc C (nI (p + 1)) [(3, .int (nI (p + 1))), (2, .int (nI k)), (0, .ref (ad 135)), (1, .int (nI v))] dX8_remove_135 (j := 0) rfl (inc_n p 1) (by decide) rfl ?_
                    refine r_goto C 106 dX8_remove_138 (by decide) ?_
                    refine r_lv (lv2 := [(3, .int (nI (p + 1))), (2, .int (nI k)), (0, .ref (ad 135)), (1, .int (nI v))]) [0, 1, 2, 3] rfl ?_
                    refine r_mem (M2 := (mA (saveM (mI M 135 7 (nI 0)) s) 136 (rmB (M.1 136) n v k (p + 1)))) (by rw [mIA, rmB_s hI (by omega) (by omega)]) ?_
                    exact ih_p (p + 1) (by omega) (by omega)
              refine r_lv (lv2 := [(3, .int (nI 0)), (2, .int (nI k)), (0, .ref (ad 135)), (1, .int (nI v))]) [0, 1, 2, 3] rfl ?_
              refine r_mem (M2 := (mA (saveM (mI M 135 7 (nI 0)) s) 136 (rmB (M.1 136) n v k 0))) (by rw [mIA, mIA, rmB_0 hI (by omega)]) ?_
              exact Lq (4 + 1) 0 (by omega) (by omega)
        refine r_lv (lv2 := [(2, .int (nI v)), (0, .ref (ad 135)), (1, .int (nI v))]) [0, 1, 2] rfl ?_
        refine r_mem (M2 := (mA (saveM (mI M 135 7 (nI 0)) s) 136 (rmA (M.1 136) n v v))) (by rw [mI_A]; exact congrArg _ (rmA_0 _ _ _)) ?_
        exact Lp ((n - 1) + 1) v (by omega) (by omega) (by omega)
      · exact absurd h35 (by decide)
    · exact absurd h20 (by omega)
  · exact absurd (h6.symm.trans w1) (by decide)
set_option maxRecDepth 100000 in
set_option maxHeartbeats 4000000 in
theorem c_X8_removeX (l : Launch) (D : va_G) (cs : Nat → ClassId) (ad : Nat → Nat) (M : Mm) (n : Nat) (hn : M.1 136 0 = nI n) (hn8 : n ≤ 8) (x : Int32) (hbad : wit x (nI 0) (nI n - nI 1) = false) : ∀ sz : Nat, Met l yX8_remove (.code yX8_remove cX8_remove 4 (some .int) :: TT) { frames := 2, cells := 0, slots := 0, locals := 43 } (va_Pc [.ref (ad 135), .int x] (fun U9 => U9.heap.size = sz ∧ wB D cs ad (fA ad sz) M U9)) (va_Qi (fun r M2 => r = nI 0 ∧ M2 = mI M 135 7 (nI 1)) (wB D cs ad (fA ad sz)) (fA ad sz)) 0 0 (fA ad sz) := by
  refine st_I (by decide) (Nat.le_of_ble_eq_true rfl) (fun κ C E => ?_)
  refine r_lv (lv2 := [(0, .ref (ad 135)), (1, .int x)]) [0, 1] rfl ?_
  refine r_aload_n C dX8_remove_0 rfl 0 rfl ?_
  refine r_aload_n C dX8_remove_1 rfl 0 rfl ?_
  refine r_iload_n C dX8_remove_2 rfl 1 rfl ?_
  refine r_pcallV_i (nA := 1) C (Nat.le_of_ble_eq_true rfl) [.int x] (c_X8_isVertex l D cs ad M x n hn hn8) (tt_V ml_X8_113 im_X8_isVertex se_X8_isVertex in_X8 co_X8_isVertex) ⟨rfl, rfl⟩ ⟨rfl, by decide, by decide, by decide⟩ ⟨Nat.le_of_ble_eq_true rfl, Nat.le_of_ble_eq_true rfl⟩ (by decide) rfl rfl rfl rfl rfl (Nat.le_of_ble_eq_true rfl) dX8_remove_3 ?_
  refine r_ifB_ne C 13 dX8_remove_6 (by decide) (fun h6 => ?_) (fun h6 => ?_)
  · exact absurd (h6.symm.trans hbad) (by decide)
  ·
    refine r_iconst C (nI 1) dX8_remove_9 (by decide) ?_
    refine r_goto C 28 dX8_remove_10 (by decide) ?_
    refine r_put C (M2 := (mI M 135 7 (nI 1))) (Cn := RX8) (T := TX8) (N := 18) (id := 135) (by decide) inw_X8 tyX8_ok nmX8 rfl rfl 7 (by decide) rfl fl_X8_41 rfl rfl (rfl) (Nat.le_of_ble_eq_true rfl) (fun j hj => ⟨mI_ne _ hj, rfl⟩) rfl dX8_remove_28 ?_
    refine r_aload_n C dX8_remove_31 rfl 0 rfl ?_
    refine r_get C (Cn := RX8) (T := TX8) (N := 18) (id := 135) (by decide) inw_X8 rfl rfl 7 (by decide) rfl fl_X8_41 rfl dX8_remove_32 ?_
    refine r_topi (w := nI 1) (rfl) ?_
    refine r_if_le C 40 dX8_remove_35 (by decide) (fun h35 => ?_) (fun h35 => ?_)
    · exact absurd h35 (by decide)
    ·
      refine r_iconst C (nI 0) dX8_remove_38 (by decide) ?_
      exact E 0 _ _ _ _ (Nat.le_of_ble_eq_true rfl) dX8_remove_39 (⟨rfl, rfl⟩)
set_option maxRecDepth 100000 in
set_option maxHeartbeats 4000000 in
theorem c_X8_removeY (l : Launch) (D : va_G) (cs : Nat → ClassId) (ad : Nat → Nat) (M : Mm) (n : Nat) (hn : M.1 136 0 = nI n) (hn8 : n ≤ 8) (h1 : n = 1) : ∀ sz : Nat, Met l yX8_remove (.code yX8_remove cX8_remove 4 (some .int) :: TT) { frames := 2, cells := 0, slots := 0, locals := 43 } (va_Pc [.ref (ad 135), .int (nI 0)] (fun U9 => U9.heap.size = sz ∧ wB D cs ad (fA ad sz) M U9)) (va_Qi (fun r M2 => r = nI 0 ∧ M2 = mI M 135 7 (nI 2)) (wB D cs ad (fA ad sz)) (fA ad sz)) 0 0 (fA ad sz) := by
  refine st_I (by decide) (Nat.le_of_ble_eq_true rfl) (fun κ C E => ?_)
  refine r_lv (lv2 := [(0, .ref (ad 135)), (1, .int (nI 0))]) [0, 1] rfl ?_
  refine r_aload_n C dX8_remove_0 rfl 0 rfl ?_
  refine r_aload_n C dX8_remove_1 rfl 0 rfl ?_
  refine r_iload_n C dX8_remove_2 rfl 1 rfl ?_
  refine r_pcallV_i (nA := 1) C (Nat.le_of_ble_eq_true rfl) [.int (nI 0)] (c_X8_isVertex l D cs ad M (nI 0) n hn hn8) (tt_V ml_X8_113 im_X8_isVertex se_X8_isVertex in_X8 co_X8_isVertex) ⟨rfl, rfl⟩ ⟨rfl, by decide, by decide, by decide⟩ ⟨Nat.le_of_ble_eq_true rfl, Nat.le_of_ble_eq_true rfl⟩ (by decide) rfl rfl rfl rfl rfl (Nat.le_of_ble_eq_true rfl) dX8_remove_3 ?_
  refine r_ifB_ne C 13 dX8_remove_6 (by decide) (fun h6 => ?_) (fun h6 => ?_)
  ·
    refine r_aload_n C dX8_remove_13 rfl 0 rfl ?_
    refine r_get C (Cn := RX8) (T := TX8) (N := 18) (id := 135) (by decide) inw_X8 rfl rfl 0 (by decide) rfl fl_X8_7 rfl dX8_remove_14 ?_
    refine r_iconst C (nI 0) dX8_remove_17 (by decide) ?_
    refine r_iald C (id := 136) (n := 55) (a := 0) (by decide) rfl (by decide) (by decide) dX8_remove_18 ?_
    refine r_topi hn ?_
    refine r_iconst C (nI 1) dX8_remove_19 (by decide) ?_
    refine r_icmpN_ne C 27 dX8_remove_20 (by decide) (by omega) (by omega) (fun h20 => ?_) (fun h20 => ?_)
    · exact absurd h1 h20
    ·
      refine r_iconst C (nI 2) dX8_remove_23 (by decide) ?_
      refine r_goto C 28 dX8_remove_24 (by decide) ?_
      refine r_put C (M2 := (mI M 135 7 (nI 2))) (Cn := RX8) (T := TX8) (N := 18) (id := 135) (by decide) inw_X8 tyX8_ok nmX8 rfl rfl 7 (by decide) rfl fl_X8_41 rfl rfl (rfl) (Nat.le_of_ble_eq_true rfl) (fun j hj => ⟨mI_ne _ hj, rfl⟩) rfl dX8_remove_28 ?_
      refine r_aload_n C dX8_remove_31 rfl 0 rfl ?_
      refine r_get C (Cn := RX8) (T := TX8) (N := 18) (id := 135) (by decide) inw_X8 rfl rfl 7 (by decide) rfl fl_X8_41 rfl dX8_remove_32 ?_
      refine r_topi (w := nI 2) (rfl) ?_
      refine r_if_le C 40 dX8_remove_35 (by decide) (fun h35 => ?_) (fun h35 => ?_)
      · exact absurd h35 (by decide)
      ·
        refine r_iconst C (nI 0) dX8_remove_38 (by decide) ?_
        exact E 0 _ _ _ _ (Nat.le_of_ble_eq_true rfl) dX8_remove_39 (⟨rfl, rfl⟩)
  · exact absurd (h6.symm.trans (wit_n (by omega) (by omega))) (by decide)
set_option maxRecDepth 100000 in
set_option maxHeartbeats 4000000 in
theorem c_X8_other (l : Launch) (D : va_G) (cs : Nat → ClassId) (ad : Nat → Nat) (M : Mm) (q p : Nat) (hq : q ≤ 1) (hp : p < 55) : ∀ sz : Nat, Met l yX8_other (.code yX8_other cX8_other 3 (some .int) :: TT) { frames := 0, cells := 0, slots := 0, locals := 0 } (va_Pc [.ref (ad 135), .int (nI q), .int (nI p)] (fun U9 => U9.heap.size = sz ∧ wB D cs ad (fA ad sz) M U9)) (va_Qi (fun r M2 => r = M.1 138 (55 * q + p) ∧ M2 = M) (wB D cs ad (fA ad sz)) (fA ad sz)) 0 0 (fA ad sz) := by
  refine st_I (by decide) (Nat.le_of_ble_eq_true rfl) (fun κ C E => ?_)
  refine r_lv (lv2 := [(0, .ref (ad 135)), (1, .int (nI q)), (2, .int (nI p))]) [0, 1, 2] rfl ?_
  refine r_aload_n C dX8_other_0 rfl 0 rfl ?_
  refine r_get C (Cn := RX8) (T := TX8) (N := 18) (id := 135) (by decide) inw_X8 rfl rfl 3 (by decide) rfl fl_X8_16 rfl dX8_other_1 ?_
  refine r_bipush C (nI 55) dX8_other_4 (by decide) ?_
  refine r_iload_n C dX8_other_6 rfl 1 rfl ?_
  refine r_imul C dX8_other_7 ?_
  refine r_topi (pk_mul 55 q) ?_
  refine r_iload_n C dX8_other_8 rfl 2 rfl ?_
  refine r_iadd C dX8_other_9 ?_
  refine r_topi (nI_add (55 * q) p) ?_
  refine r_iald C (id := 138) (n := 110) (a := (55 * q) + p) (by decide) rfl (by omega) (by decide) dX8_other_10 ?_
  exact E 0 _ _ _ _ (Nat.le_of_ble_eq_true rfl) dX8_other_11 (⟨rfl, rfl⟩)
set_option maxRecDepth 100000 in
set_option maxHeartbeats 4000000 in
theorem c_X8_isSnapshot (l : Launch) (D : va_G) (cs : Nat → ClassId) (ad : Nat → Nat) (M : Mm) (x : Int32) : ∀ sz : Nat, Met l yX8_isSnapshot (.code yX8_isSnapshot cX8_isSnapshot 1 (some .boolean) :: TT) { frames := 1, cells := 0, slots := 0, locals := 22 } (va_Pc [.int x] (fun U9 => U9.heap.size = sz ∧ wB D cs ad (fA ad sz) M U9)) (va_Qi (fun r M2 => r = bI (wit x (nI 0) (nI 1)) ∧ M2 = M) (wB D cs ad (fA ad sz)) (fA ad sz)) 0 0 (fA ad sz) := by
  refine st_Z (by decide) (Nat.le_of_ble_eq_true rfl) (fun κ C E => ?_)
  refine r_lv (lv2 := [(0, .int x)]) [0] rfl ?_
  refine r_iload_n C dX8_isSnapshot_0 rfl 0 rfl ?_
  refine r_iconst C (nI 0) dX8_isSnapshot_1 (by decide) ?_
  refine r_iconst C (nI 1) dX8_isSnapshot_2 (by decide) ?_
  refine r_pcallS_i (nA := 3) C (Nat.le_of_ble_eq_true rfl) [.int x, .int (nI 0), .int (nI 1)] (c_X8_within l D cs ad M x (nI 0) (nI 1) ) (tt_S ml_X8_48 st_X8_within in_X8 co_X8_within) ⟨rfl, rfl⟩ ⟨rfl, by decide, by decide, by decide⟩ ⟨Nat.le_of_ble_eq_true rfl, Nat.le_of_ble_eq_true rfl⟩ rfl rfl (Nat.le_of_ble_eq_true rfl) dX8_isSnapshot_3 ?_
  exact E 0 _ _ _ _ (Nat.le_of_ble_eq_true rfl) dX8_isSnapshot_6 (bI_n _) (⟨rfl, rfl⟩)
set_option maxRecDepth 100000 in
set_option maxHeartbeats 4000000 in
theorem c_X8_refusedT (l : Launch) (D : va_G) (cs : Nat → ClassId) (ad : Nat → Nat) (M : Mm) (q : Nat) (hq : q ≤ 1) (ht : M.1 139 q = nI 1) : ∀ sz : Nat, Met l yX8_refusedSnapshot (.code yX8_refusedSnapshot cX8_refusedSnapshot 2 (some .int) :: TT) { frames := 2, cells := 0, slots := 0, locals := 42 } (va_Pc [.ref (ad 135), .int (nI q)] (fun U9 => U9.heap.size = sz ∧ wB D cs ad (fA ad sz) M U9)) (va_Qi (fun r M2 => r = nI 0 ∧ M2 = M) (wB D cs ad (fA ad sz)) (fA ad sz)) 0 0 (fA ad sz) := by
  have w1 : wit (nI q) (nI 0) (nI 1) = true := (wit_iff (by omega) (by omega) (by omega)).mpr ⟨by omega, hq⟩
  refine st_I (by decide) (Nat.le_of_ble_eq_true rfl) (fun κ C E => ?_)
  refine r_lv (lv2 := [(0, .ref (ad 135)), (1, .int (nI q))]) [0, 1] rfl ?_
  refine r_iload_n C dX8_refusedSnapshot_0 rfl 1 rfl ?_
  refine r_pcallS_i (nA := 1) C (Nat.le_of_ble_eq_true rfl) [.int (nI q)] (c_X8_isSnapshot l D cs ad M (nI q) ) (tt_S ml_X8_135 st_X8_isSnapshot in_X8 co_X8_isSnapshot) ⟨rfl, rfl⟩ ⟨rfl, by decide, by decide, by decide⟩ ⟨Nat.le_of_ble_eq_true rfl, Nat.le_of_ble_eq_true rfl⟩ rfl rfl (Nat.le_of_ble_eq_true rfl) dX8_refusedSnapshot_1 ?_
  refine r_ifB_ne C 11 dX8_refusedSnapshot_4 (by decide) (fun h4 => ?_) (fun h4 => ?_)
  ·
    refine r_aload_n C dX8_refusedSnapshot_11 rfl 0 rfl ?_
    refine r_get C (Cn := RX8) (T := TX8) (N := 18) (id := 135) (by decide) inw_X8 rfl rfl 4 (by decide) rfl fl_X8_19 rfl dX8_refusedSnapshot_12 ?_
    refine r_iload_n C dX8_refusedSnapshot_15 rfl 1 rfl ?_
    refine r_iald C (id := 139) (n := 2) (a := q) (by decide) rfl (by omega) (by decide) dX8_refusedSnapshot_16 ?_
    refine r_topi ht ?_
    refine r_iconst C (nI 1) dX8_refusedSnapshot_17 (by decide) ?_
    refine r_icmpN_ne C 25 dX8_refusedSnapshot_18 (by decide) (by omega) (by omega) (fun h18 => ?_) (fun h18 => ?_)
    · exact absurd h18 (by decide)
    ·
      refine r_iconst C (nI 0) dX8_refusedSnapshot_21 (by decide) ?_
      refine r_goto C 26 dX8_refusedSnapshot_22 (by decide) ?_
      exact E 0 _ _ _ _ (Nat.le_of_ble_eq_true rfl) dX8_refusedSnapshot_26 (⟨rfl, rfl⟩)
  · exact absurd (h4.symm.trans w1) (by decide)
set_option maxRecDepth 100000 in
set_option maxHeartbeats 4000000 in
theorem c_X8_refusedF (l : Launch) (D : va_G) (cs : Nat → ClassId) (ad : Nat → Nat) (M : Mm) (q : Nat) (hq : q ≤ 1) (ht : M.1 139 q = nI 0) : ∀ sz : Nat, Met l yX8_refusedSnapshot (.code yX8_refusedSnapshot cX8_refusedSnapshot 2 (some .int) :: TT) { frames := 2, cells := 0, slots := 0, locals := 42 } (va_Pc [.ref (ad 135), .int (nI q)] (fun U9 => U9.heap.size = sz ∧ wB D cs ad (fA ad sz) M U9)) (va_Qi (fun r M2 => r = nI 2 ∧ M2 = M) (wB D cs ad (fA ad sz)) (fA ad sz)) 0 0 (fA ad sz) := by
  have w1 : wit (nI q) (nI 0) (nI 1) = true := (wit_iff (by omega) (by omega) (by omega)).mpr ⟨by omega, hq⟩
  refine st_I (by decide) (Nat.le_of_ble_eq_true rfl) (fun κ C E => ?_)
  refine r_lv (lv2 := [(0, .ref (ad 135)), (1, .int (nI q))]) [0, 1] rfl ?_
  refine r_iload_n C dX8_refusedSnapshot_0 rfl 1 rfl ?_
  refine r_pcallS_i (nA := 1) C (Nat.le_of_ble_eq_true rfl) [.int (nI q)] (c_X8_isSnapshot l D cs ad M (nI q) ) (tt_S ml_X8_135 st_X8_isSnapshot in_X8 co_X8_isSnapshot) ⟨rfl, rfl⟩ ⟨rfl, by decide, by decide, by decide⟩ ⟨Nat.le_of_ble_eq_true rfl, Nat.le_of_ble_eq_true rfl⟩ rfl rfl (Nat.le_of_ble_eq_true rfl) dX8_refusedSnapshot_1 ?_
  refine r_ifB_ne C 11 dX8_refusedSnapshot_4 (by decide) (fun h4 => ?_) (fun h4 => ?_)
  ·
    refine r_aload_n C dX8_refusedSnapshot_11 rfl 0 rfl ?_
    refine r_get C (Cn := RX8) (T := TX8) (N := 18) (id := 135) (by decide) inw_X8 rfl rfl 4 (by decide) rfl fl_X8_19 rfl dX8_refusedSnapshot_12 ?_
    refine r_iload_n C dX8_refusedSnapshot_15 rfl 1 rfl ?_
    refine r_iald C (id := 139) (n := 2) (a := q) (by decide) rfl (by omega) (by decide) dX8_refusedSnapshot_16 ?_
    refine r_topi ht ?_
    refine r_iconst C (nI 1) dX8_refusedSnapshot_17 (by decide) ?_
    refine r_icmpN_ne C 25 dX8_refusedSnapshot_18 (by decide) (by omega) (by omega) (fun h18 => ?_) (fun h18 => ?_)
    ·
      refine r_iconst C (nI 2) dX8_refusedSnapshot_25 (by decide) ?_
      exact E 0 _ _ _ _ (Nat.le_of_ble_eq_true rfl) dX8_refusedSnapshot_26 (⟨rfl, rfl⟩)
    · exact absurd h18 (by decide)
  · exact absurd (h4.symm.trans w1) (by decide)
set_option maxRecDepth 100000 in
set_option maxHeartbeats 4000000 in
theorem c_X8_refusedX (l : Launch) (D : va_G) (cs : Nat → ClassId) (ad : Nat → Nat) (M : Mm) (x : Int32) (hbad : wit x (nI 0) (nI 1) = false) : ∀ sz : Nat, Met l yX8_refusedSnapshot (.code yX8_refusedSnapshot cX8_refusedSnapshot 2 (some .int) :: TT) { frames := 2, cells := 0, slots := 0, locals := 42 } (va_Pc [.ref (ad 135), .int x] (fun U9 => U9.heap.size = sz ∧ wB D cs ad (fA ad sz) M U9)) (va_Qi (fun r M2 => r = nI 1 ∧ M2 = M) (wB D cs ad (fA ad sz)) (fA ad sz)) 0 0 (fA ad sz) := by
  refine st_I (by decide) (Nat.le_of_ble_eq_true rfl) (fun κ C E => ?_)
  refine r_lv (lv2 := [(0, .ref (ad 135)), (1, .int x)]) [0, 1] rfl ?_
  refine r_iload_n C dX8_refusedSnapshot_0 rfl 1 rfl ?_
  refine r_pcallS_i (nA := 1) C (Nat.le_of_ble_eq_true rfl) [.int x] (c_X8_isSnapshot l D cs ad M x ) (tt_S ml_X8_135 st_X8_isSnapshot in_X8 co_X8_isSnapshot) ⟨rfl, rfl⟩ ⟨rfl, by decide, by decide, by decide⟩ ⟨Nat.le_of_ble_eq_true rfl, Nat.le_of_ble_eq_true rfl⟩ rfl rfl (Nat.le_of_ble_eq_true rfl) dX8_refusedSnapshot_1 ?_
  refine r_ifB_ne C 11 dX8_refusedSnapshot_4 (by decide) (fun h4 => ?_) (fun h4 => ?_)
  · exact absurd (h4.symm.trans hbad) (by decide)
  ·
    refine r_iconst C (nI 1) dX8_refusedSnapshot_7 (by decide) ?_
    refine r_goto C 26 dX8_refusedSnapshot_8 (by decide) ?_
    exact E 0 _ _ _ _ (Nat.le_of_ble_eq_true rfl) dX8_refusedSnapshot_26 (⟨rfl, rfl⟩)
set_option maxRecDepth 100000 in
set_option maxHeartbeats 4000000 in
theorem c_X8_label (l : Launch) (D : va_G) (cs : Nat → ClassId) (ad : Nat → Nat) (M : Mm) (n : Nat) (hn : M.1 136 0 = nI n) (hn8 : n ≤ 8) (d : Nat) (hd : M.1 136 1 = nI d) (hd4 : d ≤ 4) (s : Nat) (hs : M.1 135 1 = nI s) (hs6 : s ≤ 6) (v p : Nat) (w : Int32) (hv : v < n) (hp : p < d) (hw : wit w (-9) (nI 9) = true) : ∀ sz : Nat, Met l yX8_label (.code yX8_label cX8_label 5 (some .int) :: TT) { frames := 2, cells := 0, slots := 0, locals := 43 } (va_Pc [.ref (ad 135), .int (nI v), .int (nI p), .int w] (fun U9 => U9.heap.size = sz ∧ wB D cs ad (fA ad sz) M U9)) (va_Qi (fun r M2 => r = M.1 136 (18 + 4 * v + p) ∧ M2 = mI (saveM (mI M 135 7 (nI 0)) s) 136 (18 + 4 * v + p) w) (wB D cs ad (fA ad sz)) (fA ad sz)) 0 0 (fA ad sz) := by
  have w1 := wit_n hv (by omega)
  have w2 := wit_n hp (by omega)
  refine st_I (by decide) (Nat.le_of_ble_eq_true rfl) (fun κ C E => ?_)
  refine r_lv (lv2 := [(0, .ref (ad 135)), (1, .int (nI v)), (2, .int (nI p)), (3, .int w)]) [0, 1, 2, 3] rfl ?_
  refine r_aload_n C dX8_label_0 rfl 0 rfl ?_
  refine r_aload_n C dX8_label_1 rfl 0 rfl ?_
  refine r_iload_n C dX8_label_2 rfl 1 rfl ?_
  refine r_pcallV_i (nA := 1) C (Nat.le_of_ble_eq_true rfl) [.int (nI v)] (c_X8_isVertex l D cs ad M (nI v) n hn hn8) (tt_V ml_X8_113 im_X8_isVertex se_X8_isVertex in_X8 co_X8_isVertex) ⟨rfl, rfl⟩ ⟨rfl, by decide, by decide, by decide⟩ ⟨Nat.le_of_ble_eq_true rfl, Nat.le_of_ble_eq_true rfl⟩ (by decide) rfl rfl rfl rfl rfl (Nat.le_of_ble_eq_true rfl) dX8_label_3 ?_
  refine r_ifB_eq C 17 dX8_label_6 (by decide) (fun h6 => ?_) (fun h6 => ?_)
  · exact absurd (h6.symm.trans w1) (by decide)
  ·
    refine r_aload_n C dX8_label_9 rfl 0 rfl ?_
    refine r_iload_n C dX8_label_10 rfl 2 rfl ?_
    refine r_pcallV_i (nA := 1) C (Nat.le_of_ble_eq_true rfl) [.int (nI p)] (c_X8_isPlace l D cs ad M (nI p) d hd hd4) (tt_V ml_X8_144 im_X8_isPlace se_X8_isPlace in_X8 co_X8_isPlace) ⟨rfl, rfl⟩ ⟨rfl, by decide, by decide, by decide⟩ ⟨Nat.le_of_ble_eq_true rfl, Nat.le_of_ble_eq_true rfl⟩ (by decide) rfl rfl rfl rfl rfl (Nat.le_of_ble_eq_true rfl) dX8_label_11 ?_
    refine r_ifB_ne C 21 dX8_label_14 (by decide) (fun h14 => ?_) (fun h14 => ?_)
    ·
      refine r_iload_n C dX8_label_21 rfl 3 rfl ?_
      refine r_pcallS_i (nA := 1) C (Nat.le_of_ble_eq_true rfl) [.int w] (c_X8_isNumber l D cs ad M w ) (tt_S ml_X8_132 st_X8_isNumber in_X8 co_X8_isNumber) ⟨rfl, rfl⟩ ⟨rfl, by decide, by decide, by decide⟩ ⟨Nat.le_of_ble_eq_true rfl, Nat.le_of_ble_eq_true rfl⟩ rfl rfl (Nat.le_of_ble_eq_true rfl) dX8_label_22 ?_
      refine r_ifB_eq C 32 dX8_label_25 (by decide) (fun h25 => ?_) (fun h25 => ?_)
      · exact absurd (h25.symm.trans hw) (by decide)
      ·
        refine r_iconst C (nI 0) dX8_label_28 (by decide) ?_
        refine r_goto C 33 dX8_label_29 (by decide) ?_
        refine r_put C (M2 := (mI M 135 7 (nI 0))) (Cn := RX8) (T := TX8) (N := 18) (id := 135) (by decide) inw_X8 tyX8_ok nmX8 rfl rfl 7 (by decide) rfl fl_X8_41 rfl rfl (rfl) (Nat.le_of_ble_eq_true rfl) (fun j hj => ⟨mI_ne _ hj, rfl⟩) rfl dX8_label_33 ?_
        refine r_aload_n C dX8_label_36 rfl 0 rfl ?_
        refine r_get C (Cn := RX8) (T := TX8) (N := 18) (id := 135) (by decide) inw_X8 rfl rfl 7 (by decide) rfl fl_X8_41 rfl dX8_label_37 ?_
        refine r_topi (w := nI 0) (rfl) ?_
        refine r_if_le C 45 dX8_label_40 (by decide) (fun h40 => ?_) (fun h40 => ?_)
        ·
          refine r_aload_n C dX8_label_45 rfl 0 rfl ?_
          refine r_pcallV_v (nA := 0) C (Nat.le_of_ble_eq_true rfl) [] (c_X8_save l D cs ad (mI M 135 7 (nI 0))  s hs hs6) (tt_V ml_X8_110 im_X8_save se_X8_save in_X8 co_X8_save) ⟨rfl, rfl⟩ ⟨rfl, by decide, by decide, by decide⟩ ⟨Nat.le_of_ble_eq_true rfl, Nat.le_of_ble_eq_true rfl⟩ (by decide) rfl rfl rfl rfl rfl (Nat.le_of_ble_eq_true rfl) dX8_label_46 ?_
          refine r_aload_n C dX8_label_49 rfl 0 rfl ?_
          refine r_get C (Cn := RX8) (T := TX8) (N := 18) (id := 135) (by decide) inw_X8 rfl rfl 0 (by decide) rfl fl_X8_7 rfl dX8_label_50 ?_
          refine r_iload_n C dX8_label_53 rfl 1 rfl ?_
          refine r_pcallS_i (nA := 1) C (Nat.le_of_ble_eq_true rfl) [.int (nI v)] (c_X8_labelAt l D cs ad (saveM (mI M 135 7 (nI 0)) s) v ) (tt_S ml_X8_56 st_X8_labelAt in_X8 co_X8_labelAt) ⟨rfl, rfl⟩ ⟨rfl, by decide, by decide, by decide⟩ ⟨Nat.le_of_ble_eq_true rfl, Nat.le_of_ble_eq_true rfl⟩ rfl rfl (Nat.le_of_ble_eq_true rfl) dX8_label_54 ?_
          refine r_topi (w := nI (18 + 4 * v)) rfl ?_
          refine r_iload_n C dX8_label_57 rfl 2 rfl ?_
          refine r_iadd C dX8_label_58 ?_
          refine r_topi (nI_add (18 + 4 * v) p) ?_
          refine r_iald C (id := 136) (n := 55) (a := (18 + 4 * v) + p) (by decide) rfl (by omega) (by decide) dX8_label_59 ?_
          refine r_topi (w := (M.1 136 ((18 + 4 * v) + p))) (rfl) ?_
          refine r_istore C [(4, .int (M.1 136 ((18 + 4 * v) + p))), (0, .ref (ad 135)), (1, .int (nI v)), (2, .int (nI p)), (3, .int w)] dX8_label_60 (by decide) rfl ?_
          refine r_aload_n C dX8_label_62 rfl 1 rfl ?_
          refine r_get C (Cn := RX8) (T := TX8) (N := 18) (id := 135) (by decide) inw_X8 rfl rfl 0 (by decide) rfl fl_X8_7 rfl dX8_label_63 ?_
          refine r_iload_n C dX8_label_66 rfl 2 rfl ?_
          refine r_pcallS_i (nA := 1) C (Nat.le_of_ble_eq_true rfl) [.int (nI v)] (c_X8_labelAt l D cs ad (saveM (mI M 135 7 (nI 0)) s) v ) (tt_S ml_X8_56 st_X8_labelAt in_X8 co_X8_labelAt) ⟨rfl, rfl⟩ ⟨rfl, by decide, by decide, by decide⟩ ⟨Nat.le_of_ble_eq_true rfl, Nat.le_of_ble_eq_true rfl⟩ rfl rfl (Nat.le_of_ble_eq_true rfl) dX8_label_67 ?_
          refine r_topi (w := nI (18 + 4 * v)) rfl ?_
          refine r_iload_n C dX8_label_70 rfl 3 rfl ?_
          refine r_iadd C dX8_label_71 ?_
          refine r_topi (nI_add (18 + 4 * v) p) ?_
          refine r_iload_n C dX8_label_72 rfl 4 rfl ?_
          refine r_iast C (id := 136) (n := 55) (a := (18 + 4 * v) + p) (by decide) (fun _ => rfl) (by omega) (by decide) dX8_label_73 ?_
          refine r_iload C dX8_label_74 0 rfl ?_
          exact E 0 _ _ _ _ (Nat.le_of_ble_eq_true rfl) dX8_label_76 (⟨rfl, rfl⟩)
        · exact absurd h40 (by decide)
    · exact absurd (h14.symm.trans w2) (by decide)
set_option maxRecDepth 100000 in
set_option maxHeartbeats 4000000 in
theorem c_X8_labelX (l : Launch) (D : va_G) (cs : Nat → ClassId) (ad : Nat → Nat) (M : Mm) (n : Nat) (hn : M.1 136 0 = nI n) (hn8 : n ≤ 8) (d : Nat) (hd : M.1 136 1 = nI d) (hd4 : d ≤ 4) (x y w : Int32) (hbad : (wit x (nI 0) (nI n - nI 1) && wit y (nI 0) (nI d - nI 1)) = false) : ∀ sz : Nat, Met l yX8_label (.code yX8_label cX8_label 5 (some .int) :: TT) { frames := 2, cells := 0, slots := 0, locals := 43 } (va_Pc [.ref (ad 135), .int x, .int y, .int w] (fun U9 => U9.heap.size = sz ∧ wB D cs ad (fA ad sz) M U9)) (va_Qi (fun r M2 => r = nI 0 ∧ M2 = mI M 135 7 (nI 1)) (wB D cs ad (fA ad sz)) (fA ad sz)) 0 0 (fA ad sz) := by
  refine st_I (by decide) (Nat.le_of_ble_eq_true rfl) (fun κ C E => ?_)
  refine r_lv (lv2 := [(0, .ref (ad 135)), (1, .int x), (2, .int y), (3, .int w)]) [0, 1, 2, 3] rfl ?_
  refine r_aload_n C dX8_label_0 rfl 0 rfl ?_
  refine r_aload_n C dX8_label_1 rfl 0 rfl ?_
  refine r_iload_n C dX8_label_2 rfl 1 rfl ?_
  refine r_pcallV_i (nA := 1) C (Nat.le_of_ble_eq_true rfl) [.int x] (c_X8_isVertex l D cs ad M x n hn hn8) (tt_V ml_X8_113 im_X8_isVertex se_X8_isVertex in_X8 co_X8_isVertex) ⟨rfl, rfl⟩ ⟨rfl, by decide, by decide, by decide⟩ ⟨Nat.le_of_ble_eq_true rfl, Nat.le_of_ble_eq_true rfl⟩ (by decide) rfl rfl rfl rfl rfl (Nat.le_of_ble_eq_true rfl) dX8_label_3 ?_
  refine r_ifB_eq C 17 dX8_label_6 (by decide) (fun h6 => ?_) (fun h6 => ?_)
  ·
    refine r_iconst C (nI 1) dX8_label_17 (by decide) ?_
    refine r_goto C 33 dX8_label_18 (by decide) ?_
    refine r_put C (M2 := (mI M 135 7 (nI 1))) (Cn := RX8) (T := TX8) (N := 18) (id := 135) (by decide) inw_X8 tyX8_ok nmX8 rfl rfl 7 (by decide) rfl fl_X8_41 rfl rfl (rfl) (Nat.le_of_ble_eq_true rfl) (fun j hj => ⟨mI_ne _ hj, rfl⟩) rfl dX8_label_33 ?_
    refine r_aload_n C dX8_label_36 rfl 0 rfl ?_
    refine r_get C (Cn := RX8) (T := TX8) (N := 18) (id := 135) (by decide) inw_X8 rfl rfl 7 (by decide) rfl fl_X8_41 rfl dX8_label_37 ?_
    refine r_topi (w := nI 1) (rfl) ?_
    refine r_if_le C 45 dX8_label_40 (by decide) (fun h40 => ?_) (fun h40 => ?_)
    · exact absurd h40 (by decide)
    ·
      refine r_iconst C (nI 0) dX8_label_43 (by decide) ?_
      exact E 0 _ _ _ _ (Nat.le_of_ble_eq_true rfl) dX8_label_44 (⟨rfl, rfl⟩)
  ·
    refine r_aload_n C dX8_label_9 rfl 0 rfl ?_
    refine r_iload_n C dX8_label_10 rfl 2 rfl ?_
    refine r_pcallV_i (nA := 1) C (Nat.le_of_ble_eq_true rfl) [.int y] (c_X8_isPlace l D cs ad M y d hd hd4) (tt_V ml_X8_144 im_X8_isPlace se_X8_isPlace in_X8 co_X8_isPlace) ⟨rfl, rfl⟩ ⟨rfl, by decide, by decide, by decide⟩ ⟨Nat.le_of_ble_eq_true rfl, Nat.le_of_ble_eq_true rfl⟩ (by decide) rfl rfl rfl rfl rfl (Nat.le_of_ble_eq_true rfl) dX8_label_11 ?_
    refine r_ifB_ne C 21 dX8_label_14 (by decide) (fun h14 => ?_) (fun h14 => ?_)
    ·
      simp [h6, h14] at hbad
    ·
      refine r_iconst C (nI 1) dX8_label_17 (by decide) ?_
      refine r_goto C 33 dX8_label_18 (by decide) ?_
      refine r_put C (M2 := (mI M 135 7 (nI 1))) (Cn := RX8) (T := TX8) (N := 18) (id := 135) (by decide) inw_X8 tyX8_ok nmX8 rfl rfl 7 (by decide) rfl fl_X8_41 rfl rfl (rfl) (Nat.le_of_ble_eq_true rfl) (fun j hj => ⟨mI_ne _ hj, rfl⟩) rfl dX8_label_33 ?_
      refine r_aload_n C dX8_label_36 rfl 0 rfl ?_
      refine r_get C (Cn := RX8) (T := TX8) (N := 18) (id := 135) (by decide) inw_X8 rfl rfl 7 (by decide) rfl fl_X8_41 rfl dX8_label_37 ?_
      refine r_topi (w := nI 1) (rfl) ?_
      refine r_if_le C 45 dX8_label_40 (by decide) (fun h40 => ?_) (fun h40 => ?_)
      · exact absurd h40 (by decide)
      ·
        refine r_iconst C (nI 0) dX8_label_43 (by decide) ?_
        exact E 0 _ _ _ _ (Nat.le_of_ble_eq_true rfl) dX8_label_44 (⟨rfl, rfl⟩)
set_option maxRecDepth 100000 in
set_option maxHeartbeats 4000000 in
theorem c_X8_labelY (l : Launch) (D : va_G) (cs : Nat → ClassId) (ad : Nat → Nat) (M : Mm) (n : Nat) (hn : M.1 136 0 = nI n) (hn8 : n ≤ 8) (d : Nat) (hd : M.1 136 1 = nI d) (hd4 : d ≤ 4) (v p : Nat) (w : Int32) (hv : v < n) (hp : p < d) (hw : wit w (-9) (nI 9) = false) : ∀ sz : Nat, Met l yX8_label (.code yX8_label cX8_label 5 (some .int) :: TT) { frames := 2, cells := 0, slots := 0, locals := 43 } (va_Pc [.ref (ad 135), .int (nI v), .int (nI p), .int w] (fun U9 => U9.heap.size = sz ∧ wB D cs ad (fA ad sz) M U9)) (va_Qi (fun r M2 => r = nI 0 ∧ M2 = mI M 135 7 (nI 2)) (wB D cs ad (fA ad sz)) (fA ad sz)) 0 0 (fA ad sz) := by
  refine st_I (by decide) (Nat.le_of_ble_eq_true rfl) (fun κ C E => ?_)
  refine r_lv (lv2 := [(0, .ref (ad 135)), (1, .int (nI v)), (2, .int (nI p)), (3, .int w)]) [0, 1, 2, 3] rfl ?_
  refine r_aload_n C dX8_label_0 rfl 0 rfl ?_
  refine r_aload_n C dX8_label_1 rfl 0 rfl ?_
  refine r_iload_n C dX8_label_2 rfl 1 rfl ?_
  refine r_pcallV_i (nA := 1) C (Nat.le_of_ble_eq_true rfl) [.int (nI v)] (c_X8_isVertex l D cs ad M (nI v) n hn hn8) (tt_V ml_X8_113 im_X8_isVertex se_X8_isVertex in_X8 co_X8_isVertex) ⟨rfl, rfl⟩ ⟨rfl, by decide, by decide, by decide⟩ ⟨Nat.le_of_ble_eq_true rfl, Nat.le_of_ble_eq_true rfl⟩ (by decide) rfl rfl rfl rfl rfl (Nat.le_of_ble_eq_true rfl) dX8_label_3 ?_
  refine r_ifB_eq C 17 dX8_label_6 (by decide) (fun h6 => ?_) (fun h6 => ?_)
  · exact absurd (h6.symm.trans (wit_n hv (by omega))) (by decide)
  ·
    refine r_aload_n C dX8_label_9 rfl 0 rfl ?_
    refine r_iload_n C dX8_label_10 rfl 2 rfl ?_
    refine r_pcallV_i (nA := 1) C (Nat.le_of_ble_eq_true rfl) [.int (nI p)] (c_X8_isPlace l D cs ad M (nI p) d hd hd4) (tt_V ml_X8_144 im_X8_isPlace se_X8_isPlace in_X8 co_X8_isPlace) ⟨rfl, rfl⟩ ⟨rfl, by decide, by decide, by decide⟩ ⟨Nat.le_of_ble_eq_true rfl, Nat.le_of_ble_eq_true rfl⟩ (by decide) rfl rfl rfl rfl rfl (Nat.le_of_ble_eq_true rfl) dX8_label_11 ?_
    refine r_ifB_ne C 21 dX8_label_14 (by decide) (fun h14 => ?_) (fun h14 => ?_)
    ·
      refine r_iload_n C dX8_label_21 rfl 3 rfl ?_
      refine r_pcallS_i (nA := 1) C (Nat.le_of_ble_eq_true rfl) [.int w] (c_X8_isNumber l D cs ad M w ) (tt_S ml_X8_132 st_X8_isNumber in_X8 co_X8_isNumber) ⟨rfl, rfl⟩ ⟨rfl, by decide, by decide, by decide⟩ ⟨Nat.le_of_ble_eq_true rfl, Nat.le_of_ble_eq_true rfl⟩ rfl rfl (Nat.le_of_ble_eq_true rfl) dX8_label_22 ?_
      refine r_ifB_eq C 32 dX8_label_25 (by decide) (fun h25 => ?_) (fun h25 => ?_)
      ·
        refine r_iconst C (nI 2) dX8_label_32 (by decide) ?_
        refine r_put C (M2 := (mI M 135 7 (nI 2))) (Cn := RX8) (T := TX8) (N := 18) (id := 135) (by decide) inw_X8 tyX8_ok nmX8 rfl rfl 7 (by decide) rfl fl_X8_41 rfl rfl (rfl) (Nat.le_of_ble_eq_true rfl) (fun j hj => ⟨mI_ne _ hj, rfl⟩) rfl dX8_label_33 ?_
        refine r_aload_n C dX8_label_36 rfl 0 rfl ?_
        refine r_get C (Cn := RX8) (T := TX8) (N := 18) (id := 135) (by decide) inw_X8 rfl rfl 7 (by decide) rfl fl_X8_41 rfl dX8_label_37 ?_
        refine r_topi (w := nI 2) (rfl) ?_
        refine r_if_le C 45 dX8_label_40 (by decide) (fun h40 => ?_) (fun h40 => ?_)
        · exact absurd h40 (by decide)
        ·
          refine r_iconst C (nI 0) dX8_label_43 (by decide) ?_
          exact E 0 _ _ _ _ (Nat.le_of_ble_eq_true rfl) dX8_label_44 (⟨rfl, rfl⟩)
      · exact absurd (h25.symm.trans hw) (by decide)
    · exact absurd (h14.symm.trans (wit_n hp (by omega))) (by decide)
set_option maxRecDepth 100000 in
set_option maxHeartbeats 4000000 in
theorem c_X8_hold (l : Launch) (D : va_G) (cs : Nat → ClassId) (ad : Nat → Nat) (M : Mm) (d : Nat) (hd : M.1 136 1 = nI d) (hd4 : d ≤ 4) (s : Nat) (hs : M.1 135 1 = nI s) (hs6 : s ≤ 6) (p : Nat) (w : Int32) (hp : p < d) (hw : wit w (-9) (nI 9) = true) : ∀ sz : Nat, Met l yX8_hold (.code yX8_hold cX8_hold 4 (some .int) :: TT) { frames := 2, cells := 0, slots := 0, locals := 43 } (va_Pc [.ref (ad 135), .int (nI p), .int w] (fun U9 => U9.heap.size = sz ∧ wB D cs ad (fA ad sz) M U9)) (va_Qi (fun r M2 => r = M.1 136 (50 + p) ∧ M2 = mI (saveM (mI M 135 7 (nI 0)) s) 136 (50 + p) w) (wB D cs ad (fA ad sz)) (fA ad sz)) 0 0 (fA ad sz) := by
  have w2 := wit_n hp (by omega)
  refine st_I (by decide) (Nat.le_of_ble_eq_true rfl) (fun κ C E => ?_)
  refine r_lv (lv2 := [(0, .ref (ad 135)), (1, .int (nI p)), (2, .int w)]) [0, 1, 2] rfl ?_
  refine r_aload_n C dX8_hold_0 rfl 0 rfl ?_
  refine r_aload_n C dX8_hold_1 rfl 0 rfl ?_
  refine r_iload_n C dX8_hold_2 rfl 1 rfl ?_
  refine r_pcallV_i (nA := 1) C (Nat.le_of_ble_eq_true rfl) [.int (nI p)] (c_X8_isPlace l D cs ad M (nI p) d hd hd4) (tt_V ml_X8_144 im_X8_isPlace se_X8_isPlace in_X8 co_X8_isPlace) ⟨rfl, rfl⟩ ⟨rfl, by decide, by decide, by decide⟩ ⟨Nat.le_of_ble_eq_true rfl, Nat.le_of_ble_eq_true rfl⟩ (by decide) rfl rfl rfl rfl rfl (Nat.le_of_ble_eq_true rfl) dX8_hold_3 ?_
  refine r_ifB_ne C 13 dX8_hold_6 (by decide) (fun h6 => ?_) (fun h6 => ?_)
  ·
    refine r_iload_n C dX8_hold_13 rfl 2 rfl ?_
    refine r_pcallS_i (nA := 1) C (Nat.le_of_ble_eq_true rfl) [.int w] (c_X8_isNumber l D cs ad M w ) (tt_S ml_X8_132 st_X8_isNumber in_X8 co_X8_isNumber) ⟨rfl, rfl⟩ ⟨rfl, by decide, by decide, by decide⟩ ⟨Nat.le_of_ble_eq_true rfl, Nat.le_of_ble_eq_true rfl⟩ rfl rfl (Nat.le_of_ble_eq_true rfl) dX8_hold_14 ?_
    refine r_ifB_eq C 24 dX8_hold_17 (by decide) (fun h17 => ?_) (fun h17 => ?_)
    · exact absurd (h17.symm.trans hw) (by decide)
    ·
      refine r_iconst C (nI 0) dX8_hold_20 (by decide) ?_
      refine r_goto C 25 dX8_hold_21 (by decide) ?_
      refine r_put C (M2 := (mI M 135 7 (nI 0))) (Cn := RX8) (T := TX8) (N := 18) (id := 135) (by decide) inw_X8 tyX8_ok nmX8 rfl rfl 7 (by decide) rfl fl_X8_41 rfl rfl (rfl) (Nat.le_of_ble_eq_true rfl) (fun j hj => ⟨mI_ne _ hj, rfl⟩) rfl dX8_hold_25 ?_
      refine r_aload_n C dX8_hold_28 rfl 0 rfl ?_
      refine r_get C (Cn := RX8) (T := TX8) (N := 18) (id := 135) (by decide) inw_X8 rfl rfl 7 (by decide) rfl fl_X8_41 rfl dX8_hold_29 ?_
      refine r_topi (w := nI 0) (rfl) ?_
      refine r_if_le C 37 dX8_hold_32 (by decide) (fun h32 => ?_) (fun h32 => ?_)
      ·
        refine r_aload_n C dX8_hold_37 rfl 0 rfl ?_
        refine r_pcallV_v (nA := 0) C (Nat.le_of_ble_eq_true rfl) [] (c_X8_save l D cs ad (mI M 135 7 (nI 0))  s hs hs6) (tt_V ml_X8_110 im_X8_save se_X8_save in_X8 co_X8_save) ⟨rfl, rfl⟩ ⟨rfl, by decide, by decide, by decide⟩ ⟨Nat.le_of_ble_eq_true rfl, Nat.le_of_ble_eq_true rfl⟩ (by decide) rfl rfl rfl rfl rfl (Nat.le_of_ble_eq_true rfl) dX8_hold_38 ?_
        refine r_aload_n C dX8_hold_41 rfl 0 rfl ?_
        refine r_get C (Cn := RX8) (T := TX8) (N := 18) (id := 135) (by decide) inw_X8 rfl rfl 0 (by decide) rfl fl_X8_7 rfl dX8_hold_42 ?_
        refine r_bipush C (nI 50) dX8_hold_45 (by decide) ?_
        refine r_iload_n C dX8_hold_47 rfl 1 rfl ?_
        refine r_iadd C dX8_hold_48 ?_
        refine r_topi (nI_add 50 p) ?_
        refine r_iald C (id := 136) (n := 55) (a := 50 + p) (by decide) rfl (by omega) (by decide) dX8_hold_49 ?_
        refine r_topi (w := (M.1 136 (50 + p))) (rfl) ?_
        refine r_istore_n C [(3, .int (M.1 136 (50 + p))), (0, .ref (ad 135)), (1, .int (nI p)), (2, .int w)] dX8_hold_50 rfl (by decide) rfl ?_
        refine r_aload_n C dX8_hold_51 rfl 1 rfl ?_
        refine r_get C (Cn := RX8) (T := TX8) (N := 18) (id := 135) (by decide) inw_X8 rfl rfl 0 (by decide) rfl fl_X8_7 rfl dX8_hold_52 ?_
        refine r_bipush C (nI 50) dX8_hold_55 (by decide) ?_
        refine r_iload_n C dX8_hold_57 rfl 2 rfl ?_
        refine r_iadd C dX8_hold_58 ?_
        refine r_topi (nI_add 50 p) ?_
        refine r_iload_n C dX8_hold_59 rfl 3 rfl ?_
        refine r_iast C (id := 136) (n := 55) (a := 50 + p) (by decide) (fun _ => rfl) (by omega) (by decide) dX8_hold_60 ?_
        refine r_iload_n C dX8_hold_61 rfl 0 rfl ?_
        exact E 0 _ _ _ _ (Nat.le_of_ble_eq_true rfl) dX8_hold_62 (⟨rfl, rfl⟩)
      · exact absurd h32 (by decide)
  · exact absurd (h6.symm.trans w2) (by decide)
set_option maxRecDepth 100000 in
set_option maxHeartbeats 4000000 in
theorem c_X8_holdX (l : Launch) (D : va_G) (cs : Nat → ClassId) (ad : Nat → Nat) (M : Mm) (d : Nat) (hd : M.1 136 1 = nI d) (hd4 : d ≤ 4) (x w : Int32) (hbad : wit x (nI 0) (nI d - nI 1) = false) : ∀ sz : Nat, Met l yX8_hold (.code yX8_hold cX8_hold 4 (some .int) :: TT) { frames := 2, cells := 0, slots := 0, locals := 43 } (va_Pc [.ref (ad 135), .int x, .int w] (fun U9 => U9.heap.size = sz ∧ wB D cs ad (fA ad sz) M U9)) (va_Qi (fun r M2 => r = nI 0 ∧ M2 = mI M 135 7 (nI 1)) (wB D cs ad (fA ad sz)) (fA ad sz)) 0 0 (fA ad sz) := by
  refine st_I (by decide) (Nat.le_of_ble_eq_true rfl) (fun κ C E => ?_)
  refine r_lv (lv2 := [(0, .ref (ad 135)), (1, .int x), (2, .int w)]) [0, 1, 2] rfl ?_
  refine r_aload_n C dX8_hold_0 rfl 0 rfl ?_
  refine r_aload_n C dX8_hold_1 rfl 0 rfl ?_
  refine r_iload_n C dX8_hold_2 rfl 1 rfl ?_
  refine r_pcallV_i (nA := 1) C (Nat.le_of_ble_eq_true rfl) [.int x] (c_X8_isPlace l D cs ad M x d hd hd4) (tt_V ml_X8_144 im_X8_isPlace se_X8_isPlace in_X8 co_X8_isPlace) ⟨rfl, rfl⟩ ⟨rfl, by decide, by decide, by decide⟩ ⟨Nat.le_of_ble_eq_true rfl, Nat.le_of_ble_eq_true rfl⟩ (by decide) rfl rfl rfl rfl rfl (Nat.le_of_ble_eq_true rfl) dX8_hold_3 ?_
  refine r_ifB_ne C 13 dX8_hold_6 (by decide) (fun h6 => ?_) (fun h6 => ?_)
  · exact absurd (h6.symm.trans hbad) (by decide)
  ·
    refine r_iconst C (nI 1) dX8_hold_9 (by decide) ?_
    refine r_goto C 25 dX8_hold_10 (by decide) ?_
    refine r_put C (M2 := (mI M 135 7 (nI 1))) (Cn := RX8) (T := TX8) (N := 18) (id := 135) (by decide) inw_X8 tyX8_ok nmX8 rfl rfl 7 (by decide) rfl fl_X8_41 rfl rfl (rfl) (Nat.le_of_ble_eq_true rfl) (fun j hj => ⟨mI_ne _ hj, rfl⟩) rfl dX8_hold_25 ?_
    refine r_aload_n C dX8_hold_28 rfl 0 rfl ?_
    refine r_get C (Cn := RX8) (T := TX8) (N := 18) (id := 135) (by decide) inw_X8 rfl rfl 7 (by decide) rfl fl_X8_41 rfl dX8_hold_29 ?_
    refine r_topi (w := nI 1) (rfl) ?_
    refine r_if_le C 37 dX8_hold_32 (by decide) (fun h32 => ?_) (fun h32 => ?_)
    · exact absurd h32 (by decide)
    ·
      refine r_iconst C (nI 0) dX8_hold_35 (by decide) ?_
      exact E 0 _ _ _ _ (Nat.le_of_ble_eq_true rfl) dX8_hold_36 (⟨rfl, rfl⟩)
set_option maxRecDepth 100000 in
set_option maxHeartbeats 4000000 in
theorem c_X8_holdY (l : Launch) (D : va_G) (cs : Nat → ClassId) (ad : Nat → Nat) (M : Mm) (d : Nat) (hd : M.1 136 1 = nI d) (hd4 : d ≤ 4) (p : Nat) (w : Int32) (hp : p < d) (hw : wit w (-9) (nI 9) = false) : ∀ sz : Nat, Met l yX8_hold (.code yX8_hold cX8_hold 4 (some .int) :: TT) { frames := 2, cells := 0, slots := 0, locals := 43 } (va_Pc [.ref (ad 135), .int (nI p), .int w] (fun U9 => U9.heap.size = sz ∧ wB D cs ad (fA ad sz) M U9)) (va_Qi (fun r M2 => r = nI 0 ∧ M2 = mI M 135 7 (nI 2)) (wB D cs ad (fA ad sz)) (fA ad sz)) 0 0 (fA ad sz) := by
  refine st_I (by decide) (Nat.le_of_ble_eq_true rfl) (fun κ C E => ?_)
  refine r_lv (lv2 := [(0, .ref (ad 135)), (1, .int (nI p)), (2, .int w)]) [0, 1, 2] rfl ?_
  refine r_aload_n C dX8_hold_0 rfl 0 rfl ?_
  refine r_aload_n C dX8_hold_1 rfl 0 rfl ?_
  refine r_iload_n C dX8_hold_2 rfl 1 rfl ?_
  refine r_pcallV_i (nA := 1) C (Nat.le_of_ble_eq_true rfl) [.int (nI p)] (c_X8_isPlace l D cs ad M (nI p) d hd hd4) (tt_V ml_X8_144 im_X8_isPlace se_X8_isPlace in_X8 co_X8_isPlace) ⟨rfl, rfl⟩ ⟨rfl, by decide, by decide, by decide⟩ ⟨Nat.le_of_ble_eq_true rfl, Nat.le_of_ble_eq_true rfl⟩ (by decide) rfl rfl rfl rfl rfl (Nat.le_of_ble_eq_true rfl) dX8_hold_3 ?_
  refine r_ifB_ne C 13 dX8_hold_6 (by decide) (fun h6 => ?_) (fun h6 => ?_)
  ·
    refine r_iload_n C dX8_hold_13 rfl 2 rfl ?_
    refine r_pcallS_i (nA := 1) C (Nat.le_of_ble_eq_true rfl) [.int w] (c_X8_isNumber l D cs ad M w ) (tt_S ml_X8_132 st_X8_isNumber in_X8 co_X8_isNumber) ⟨rfl, rfl⟩ ⟨rfl, by decide, by decide, by decide⟩ ⟨Nat.le_of_ble_eq_true rfl, Nat.le_of_ble_eq_true rfl⟩ rfl rfl (Nat.le_of_ble_eq_true rfl) dX8_hold_14 ?_
    refine r_ifB_eq C 24 dX8_hold_17 (by decide) (fun h17 => ?_) (fun h17 => ?_)
    ·
      refine r_iconst C (nI 2) dX8_hold_24 (by decide) ?_
      refine r_put C (M2 := (mI M 135 7 (nI 2))) (Cn := RX8) (T := TX8) (N := 18) (id := 135) (by decide) inw_X8 tyX8_ok nmX8 rfl rfl 7 (by decide) rfl fl_X8_41 rfl rfl (rfl) (Nat.le_of_ble_eq_true rfl) (fun j hj => ⟨mI_ne _ hj, rfl⟩) rfl dX8_hold_25 ?_
      refine r_aload_n C dX8_hold_28 rfl 0 rfl ?_
      refine r_get C (Cn := RX8) (T := TX8) (N := 18) (id := 135) (by decide) inw_X8 rfl rfl 7 (by decide) rfl fl_X8_41 rfl dX8_hold_29 ?_
      refine r_topi (w := nI 2) (rfl) ?_
      refine r_if_le C 37 dX8_hold_32 (by decide) (fun h32 => ?_) (fun h32 => ?_)
      · exact absurd h32 (by decide)
      ·
        refine r_iconst C (nI 0) dX8_hold_35 (by decide) ?_
        exact E 0 _ _ _ _ (Nat.le_of_ble_eq_true rfl) dX8_hold_36 (⟨rfl, rfl⟩)
    · exact absurd (h17.symm.trans hw) (by decide)
  · exact absurd (h6.symm.trans (wit_n hp (by omega))) (by decide)
set_option maxRecDepth 100000 in
set_option maxHeartbeats 4000000 in
theorem c_X8_append (l : Launch) (D : va_G) (cs : Nat → ClassId) (ad : Nat → Nat) (M : Mm) (len : Nat) (hl : M.1 135 5 = nI len) (hl60 : len ≤ 60) (c : Nat) (hc1 : 33 ≤ c) (hc2 : c ≤ 126) (hlt : len < 60) : ∀ sz : Nat, Met l yX8_append (.code yX8_append cX8_append 2 (some .int) :: TT) { frames := 1, cells := 0, slots := 0, locals := 22 } (va_Pc [.ref (ad 135), .int (nI c)] (fun U9 => U9.heap.size = sz ∧ wB D cs ad (fA ad sz) M U9)) (va_Qi (fun r M2 => r = nI (len + 1) ∧ M2 = mI (mI (mI M 135 7 (nI 0)) 140 len (nI c)) 135 5 (nI (len + 1))) (wB D cs ad (fA ad sz)) (fA ad sz)) 0 0 (fA ad sz) := by
  have w1 : wit (nI c) (nI 33) (nI 126) = true := (wit_iff (by omega) (by omega) (by omega)).mpr ⟨hc1, hc2⟩
  refine st_I (by decide) (Nat.le_of_ble_eq_true rfl) (fun κ C E => ?_)
  refine r_lv (lv2 := [(0, .ref (ad 135)), (1, .int (nI c))]) [0, 1] rfl ?_
  refine r_aload_n C dX8_append_0 rfl 0 rfl ?_
  refine r_iload_n C dX8_append_1 rfl 1 rfl ?_
  refine r_bipush C (nI 33) dX8_append_2 (by decide) ?_
  refine r_bipush C (nI 126) dX8_append_4 (by decide) ?_
  refine r_pcallS_i (nA := 3) C (Nat.le_of_ble_eq_true rfl) [.int (nI c), .int (nI 33), .int (nI 126)] (c_X8_within l D cs ad M (nI c) (nI 33) (nI 126) ) (tt_S ml_X8_48 st_X8_within in_X8 co_X8_within) ⟨rfl, rfl⟩ ⟨rfl, by decide, by decide, by decide⟩ ⟨Nat.le_of_ble_eq_true rfl, Nat.le_of_ble_eq_true rfl⟩ rfl rfl (Nat.le_of_ble_eq_true rfl) dX8_append_6 ?_
  refine r_ifB_ne C 16 dX8_append_9 (by decide) (fun h9 => ?_) (fun h9 => ?_)
  ·
    refine r_aload_n C dX8_append_16 rfl 0 rfl ?_
    refine r_get C (Cn := RX8) (T := TX8) (N := 18) (id := 135) (by decide) inw_X8 rfl rfl 5 (by decide) rfl fl_X8_168 rfl dX8_append_17 ?_
    refine r_topi hl ?_
    refine r_bipush C (nI 60) dX8_append_20 (by decide) ?_
    refine r_icmpN_ne C 29 dX8_append_22 (by decide) (by omega) (by omega) (fun h22 => ?_) (fun h22 => ?_)
    ·
      refine r_iconst C (nI 0) dX8_append_29 (by decide) ?_
      refine r_put C (M2 := (mI M 135 7 (nI 0))) (Cn := RX8) (T := TX8) (N := 18) (id := 135) (by decide) inw_X8 tyX8_ok nmX8 rfl rfl 7 (by decide) rfl fl_X8_41 rfl rfl (rfl) (Nat.le_of_ble_eq_true rfl) (fun j hj => ⟨mI_ne _ hj, rfl⟩) rfl dX8_append_30 ?_
      refine r_aload_n C dX8_append_33 rfl 0 rfl ?_
      refine r_get C (Cn := RX8) (T := TX8) (N := 18) (id := 135) (by decide) inw_X8 rfl rfl 7 (by decide) rfl fl_X8_41 rfl dX8_append_34 ?_
      refine r_topi (w := nI 0) (rfl) ?_
      refine r_if_le C 42 dX8_append_37 (by decide) (fun h37 => ?_) (fun h37 => ?_)
      ·
        refine r_aload_n C dX8_append_42 rfl 0 rfl ?_
        refine r_get C (Cn := RX8) (T := TX8) (N := 18) (id := 135) (by decide) inw_X8 rfl rfl 6 (by decide) rfl fl_X8_22 rfl dX8_append_43 ?_
        refine r_aload_n C dX8_append_46 rfl 0 rfl ?_
        refine r_get C (Cn := RX8) (T := TX8) (N := 18) (id := 135) (by decide) inw_X8 rfl rfl 5 (by decide) rfl fl_X8_168 rfl dX8_append_47 ?_
        refine r_topi (w := (M.1 135 5)) (rfl) ?_
        refine r_topi hl ?_
        refine r_iload_n C dX8_append_50 rfl 1 rfl ?_
        refine r_iast C (id := 140) (n := 60) (a := len) (by decide) (fun _ => rfl) (by omega) (by decide) dX8_append_51 ?_
        refine r_aload_n C dX8_append_52 rfl 0 rfl ?_
        refine r_dup C dX8_append_53 rfl ?_
        refine r_get C (Cn := RX8) (T := TX8) (N := 18) (id := 135) (by decide) inw_X8 rfl rfl 5 (by decide) rfl fl_X8_168 rfl dX8_append_54 ?_
        refine r_topi (w := (M.1 135 5)) (rfl) ?_
        refine r_topi hl ?_
        refine r_iconst C (nI 1) dX8_append_57 (by decide) ?_
        refine r_iadd C dX8_append_58 ?_
        refine r_topi (nI_add len 1) ?_
        refine r_put C (M2 := (mI (mI (mI M 135 7 (nI 0)) 140 len (nI c)) 135 5 (nI (len + 1)))) (Cn := RX8) (T := TX8) (N := 18) (id := 135) (by decide) inw_X8 tyX8_ok nmX8 rfl rfl 5 (by decide) rfl fl_X8_168 rfl rfl (rfl) (Nat.le_of_ble_eq_true rfl) (fun j hj => ⟨mI_ne _ hj, rfl⟩) rfl dX8_append_59 ?_
        refine r_aload_n C dX8_append_62 rfl 0 rfl ?_
        refine r_get C (Cn := RX8) (T := TX8) (N := 18) (id := 135) (by decide) inw_X8 rfl rfl 5 (by decide) rfl fl_X8_168 rfl dX8_append_63 ?_
        refine r_topi (w := nI (len + 1)) (rfl) ?_
        exact E 0 _ _ _ _ (Nat.le_of_ble_eq_true rfl) dX8_append_66 (⟨rfl, rfl⟩)
      · exact absurd h37 (by decide)
    · exact absurd h22 (by omega)
  · exact absurd (h9.symm.trans w1) (by decide)
set_option maxRecDepth 100000 in
set_option maxHeartbeats 4000000 in
theorem c_X8_appendX (l : Launch) (D : va_G) (cs : Nat → ClassId) (ad : Nat → Nat) (M : Mm) (x : Int32) (hbad : wit x (nI 33) (nI 126) = false) : ∀ sz : Nat, Met l yX8_append (.code yX8_append cX8_append 2 (some .int) :: TT) { frames := 1, cells := 0, slots := 0, locals := 22 } (va_Pc [.ref (ad 135), .int x] (fun U9 => U9.heap.size = sz ∧ wB D cs ad (fA ad sz) M U9)) (va_Qi (fun r M2 => r = nI 0 ∧ M2 = mI M 135 7 (nI 1)) (wB D cs ad (fA ad sz)) (fA ad sz)) 0 0 (fA ad sz) := by
  refine st_I (by decide) (Nat.le_of_ble_eq_true rfl) (fun κ C E => ?_)
  refine r_lv (lv2 := [(0, .ref (ad 135)), (1, .int x)]) [0, 1] rfl ?_
  refine r_aload_n C dX8_append_0 rfl 0 rfl ?_
  refine r_iload_n C dX8_append_1 rfl 1 rfl ?_
  refine r_bipush C (nI 33) dX8_append_2 (by decide) ?_
  refine r_bipush C (nI 126) dX8_append_4 (by decide) ?_
  refine r_pcallS_i (nA := 3) C (Nat.le_of_ble_eq_true rfl) [.int x, .int (nI 33), .int (nI 126)] (c_X8_within l D cs ad M x (nI 33) (nI 126) ) (tt_S ml_X8_48 st_X8_within in_X8 co_X8_within) ⟨rfl, rfl⟩ ⟨rfl, by decide, by decide, by decide⟩ ⟨Nat.le_of_ble_eq_true rfl, Nat.le_of_ble_eq_true rfl⟩ rfl rfl (Nat.le_of_ble_eq_true rfl) dX8_append_6 ?_
  refine r_ifB_ne C 16 dX8_append_9 (by decide) (fun h9 => ?_) (fun h9 => ?_)
  · exact absurd (h9.symm.trans hbad) (by decide)
  ·
    refine r_iconst C (nI 1) dX8_append_12 (by decide) ?_
    refine r_goto C 30 dX8_append_13 (by decide) ?_
    refine r_put C (M2 := (mI M 135 7 (nI 1))) (Cn := RX8) (T := TX8) (N := 18) (id := 135) (by decide) inw_X8 tyX8_ok nmX8 rfl rfl 7 (by decide) rfl fl_X8_41 rfl rfl (rfl) (Nat.le_of_ble_eq_true rfl) (fun j hj => ⟨mI_ne _ hj, rfl⟩) rfl dX8_append_30 ?_
    refine r_aload_n C dX8_append_33 rfl 0 rfl ?_
    refine r_get C (Cn := RX8) (T := TX8) (N := 18) (id := 135) (by decide) inw_X8 rfl rfl 7 (by decide) rfl fl_X8_41 rfl dX8_append_34 ?_
    refine r_topi (w := nI 1) (rfl) ?_
    refine r_if_le C 42 dX8_append_37 (by decide) (fun h37 => ?_) (fun h37 => ?_)
    · exact absurd h37 (by decide)
    ·
      refine r_iconst C (nI 0) dX8_append_40 (by decide) ?_
      exact E 0 _ _ _ _ (Nat.le_of_ble_eq_true rfl) dX8_append_41 (⟨rfl, rfl⟩)
set_option maxRecDepth 100000 in
set_option maxHeartbeats 4000000 in
theorem c_X8_appendY (l : Launch) (D : va_G) (cs : Nat → ClassId) (ad : Nat → Nat) (M : Mm) (hl : M.1 135 5 = nI 60) (c : Nat) (hc1 : 33 ≤ c) (hc2 : c ≤ 126) : ∀ sz : Nat, Met l yX8_append (.code yX8_append cX8_append 2 (some .int) :: TT) { frames := 1, cells := 0, slots := 0, locals := 22 } (va_Pc [.ref (ad 135), .int (nI c)] (fun U9 => U9.heap.size = sz ∧ wB D cs ad (fA ad sz) M U9)) (va_Qi (fun r M2 => r = nI 0 ∧ M2 = mI M 135 7 (nI 2)) (wB D cs ad (fA ad sz)) (fA ad sz)) 0 0 (fA ad sz) := by
  refine st_I (by decide) (Nat.le_of_ble_eq_true rfl) (fun κ C E => ?_)
  refine r_lv (lv2 := [(0, .ref (ad 135)), (1, .int (nI c))]) [0, 1] rfl ?_
  refine r_aload_n C dX8_append_0 rfl 0 rfl ?_
  refine r_iload_n C dX8_append_1 rfl 1 rfl ?_
  refine r_bipush C (nI 33) dX8_append_2 (by decide) ?_
  refine r_bipush C (nI 126) dX8_append_4 (by decide) ?_
  refine r_pcallS_i (nA := 3) C (Nat.le_of_ble_eq_true rfl) [.int (nI c), .int (nI 33), .int (nI 126)] (c_X8_within l D cs ad M (nI c) (nI 33) (nI 126) ) (tt_S ml_X8_48 st_X8_within in_X8 co_X8_within) ⟨rfl, rfl⟩ ⟨rfl, by decide, by decide, by decide⟩ ⟨Nat.le_of_ble_eq_true rfl, Nat.le_of_ble_eq_true rfl⟩ rfl rfl (Nat.le_of_ble_eq_true rfl) dX8_append_6 ?_
  refine r_ifB_ne C 16 dX8_append_9 (by decide) (fun h9 => ?_) (fun h9 => ?_)
  ·
    refine r_aload_n C dX8_append_16 rfl 0 rfl ?_
    refine r_get C (Cn := RX8) (T := TX8) (N := 18) (id := 135) (by decide) inw_X8 rfl rfl 5 (by decide) rfl fl_X8_168 rfl dX8_append_17 ?_
    refine r_topi hl ?_
    refine r_bipush C (nI 60) dX8_append_20 (by decide) ?_
    refine r_icmpN_ne C 29 dX8_append_22 (by decide) (by omega) (by omega) (fun h22 => ?_) (fun h22 => ?_)
    · exact absurd h22 (by decide)
    ·
      refine r_iconst C (nI 2) dX8_append_25 (by decide) ?_
      refine r_goto C 30 dX8_append_26 (by decide) ?_
      refine r_put C (M2 := (mI M 135 7 (nI 2))) (Cn := RX8) (T := TX8) (N := 18) (id := 135) (by decide) inw_X8 tyX8_ok nmX8 rfl rfl 7 (by decide) rfl fl_X8_41 rfl rfl (rfl) (Nat.le_of_ble_eq_true rfl) (fun j hj => ⟨mI_ne _ hj, rfl⟩) rfl dX8_append_30 ?_
      refine r_aload_n C dX8_append_33 rfl 0 rfl ?_
      refine r_get C (Cn := RX8) (T := TX8) (N := 18) (id := 135) (by decide) inw_X8 rfl rfl 7 (by decide) rfl fl_X8_41 rfl dX8_append_34 ?_
      refine r_topi (w := nI 2) (rfl) ?_
      refine r_if_le C 42 dX8_append_37 (by decide) (fun h37 => ?_) (fun h37 => ?_)
      · exact absurd h37 (by decide)
      ·
        refine r_iconst C (nI 0) dX8_append_40 (by decide) ?_
        exact E 0 _ _ _ _ (Nat.le_of_ble_eq_true rfl) dX8_append_41 (⟨rfl, rfl⟩)
  · exact absurd (h9.symm.trans ((wit_iff (by omega) (by omega) (by omega)).mpr ⟨hc1, hc2⟩)) (by decide)
set_option maxRecDepth 100000 in
set_option maxHeartbeats 4000000 in
theorem c_X8_clearBuffer (l : Launch) (D : va_G) (cs : Nat → ClassId) (ad : Nat → Nat) (M : Mm) (len : Nat) (hl : M.1 135 5 = nI len) (hl60 : len ≤ 60) : ∀ sz : Nat, Met l yX8_clearBuffer (.code yX8_clearBuffer cX8_clearBuffer 2 (some .int) :: TT) { frames := 0, cells := 0, slots := 0, locals := 0 } (va_Pc [.ref (ad 135)] (fun U9 => U9.heap.size = sz ∧ wB D cs ad (fA ad sz) M U9)) (va_Qi (fun r M2 => r = nI len ∧ M2 = mI (mI M 135 7 (nI 0)) 135 5 (nI 0)) (wB D cs ad (fA ad sz)) (fA ad sz)) 0 0 (fA ad sz) := by
  refine st_I (by decide) (Nat.le_of_ble_eq_true rfl) (fun κ C E => ?_)
  refine r_lv (lv2 := [(0, .ref (ad 135))]) [0] rfl ?_
  refine r_aload_n C dX8_clearBuffer_0 rfl 0 rfl ?_
  refine r_iconst C (nI 0) dX8_clearBuffer_1 (by decide) ?_
  refine r_put C (M2 := (mI M 135 7 (nI 0))) (Cn := RX8) (T := TX8) (N := 18) (id := 135) (by decide) inw_X8 tyX8_ok nmX8 rfl rfl 7 (by decide) rfl fl_X8_41 rfl rfl (rfl) (Nat.le_of_ble_eq_true rfl) (fun j hj => ⟨mI_ne _ hj, rfl⟩) rfl dX8_clearBuffer_2 ?_
  refine r_aload_n C dX8_clearBuffer_5 rfl 0 rfl ?_
  refine r_get C (Cn := RX8) (T := TX8) (N := 18) (id := 135) (by decide) inw_X8 rfl rfl 5 (by decide) rfl fl_X8_168 rfl dX8_clearBuffer_6 ?_
  refine r_topi (w := (M.1 135 5)) (rfl) ?_
  refine r_topi hl ?_
  refine r_istore_n C [(1, .int (nI len)), (0, .ref (ad 135))] dX8_clearBuffer_9 rfl (by decide) rfl ?_
  refine r_aload_n C dX8_clearBuffer_10 rfl 1 rfl ?_
  refine r_iconst C (nI 0) dX8_clearBuffer_11 (by decide) ?_
  refine r_put C (M2 := (mI (mI M 135 7 (nI 0)) 135 5 (nI 0))) (Cn := RX8) (T := TX8) (N := 18) (id := 135) (by decide) inw_X8 tyX8_ok nmX8 rfl rfl 5 (by decide) rfl fl_X8_168 rfl rfl (rfl) (Nat.le_of_ble_eq_true rfl) (fun j hj => ⟨mI_ne _ hj, rfl⟩) rfl dX8_clearBuffer_12 ?_
  refine r_iload_n C dX8_clearBuffer_15 rfl 0 rfl ?_
  exact E 0 _ _ _ _ (Nat.le_of_ble_eq_true rfl) dX8_clearBuffer_16 (⟨rfl, rfl⟩)
set_option maxRecDepth 100000 in
set_option maxHeartbeats 4000000 in
theorem c_X8_canStand (l : Launch) (D : va_G) (cs : Nat → ClassId) (ad : Nat → Nat) (M : Mm) (k : Nat) (hk : k < 60) (n : Nat) (hn : M.1 136 0 = nI n) (hn8 : n ≤ 8) : ∀ sz : Nat, Met l yX8_canStand (.code yX8_canStand cX8_canStand 3 (some .boolean) :: TT) { frames := 1, cells := 0, slots := 0, locals := 22 } (va_Pc [.ref (ad 135), .int (nI k)] (fun U9 => U9.heap.size = sz ∧ wB D cs ad (fA ad sz) M U9)) (va_Qi (fun r M2 => r = bI (csz (M.1 140) n k) ∧ M2 = M) (wB D cs ad (fA ad sz)) (fA ad sz)) 0 0 (fA ad sz) := by
  refine st_Z (by decide) (Nat.le_of_ble_eq_true rfl) (fun κ C E => ?_)
  refine r_lv (lv2 := [(0, .ref (ad 135)), (1, .int (nI k))]) [0, 1] rfl ?_
  refine r_aload_n C dX8_canStand_0 rfl 0 rfl ?_
  refine r_get C (Cn := RX8) (T := TX8) (N := 18) (id := 135) (by decide) inw_X8 rfl rfl 6 (by decide) rfl fl_X8_22 rfl dX8_canStand_1 ?_
  refine r_iload_n C dX8_canStand_4 rfl 1 rfl ?_
  refine r_iald C (id := 140) (n := 60) (a := k) (by decide) rfl (by omega) (by decide) dX8_canStand_5 ?_
  refine r_bipush C (nI 48) dX8_canStand_6 (by decide) ?_
  refine r_isub C dX8_canStand_8 ?_
  refine r_istore_n C [(2, .int ((M.1 140 k) - (nI 48))), (0, .ref (ad 135)), (1, .int (nI k))] dX8_canStand_9 rfl (by decide) rfl ?_
  refine r_iload_n C dX8_canStand_10 rfl 2 rfl ?_
  refine r_iconst C (nI 3) dX8_canStand_11 (by decide) ?_
  refine r_irem C dX8_canStand_12 (by decide) ?_
  refine r_topi (pk_rem (a := k) (d := 3) (by omega) (by omega) (by omega)) ?_
  refine r_ifN_ne C 30 dX8_canStand_13 (by decide) (by omega) (fun h13 => ?_) (fun h13 => ?_)
  ·
    refine r_iload_n C dX8_canStand_30 rfl 2 rfl ?_
    refine r_iconst C (nI 3) dX8_canStand_31 (by decide) ?_
    refine r_irem C dX8_canStand_32 (by decide) ?_
    refine r_topi (pk_rem (a := k) (d := 3) (by omega) (by omega) (by omega)) ?_
    refine r_iconst C (nI 1) dX8_canStand_33 (by decide) ?_
    refine r_icmpN_ne C 65 dX8_canStand_34 (by decide) (by omega) (by omega) (fun h34 => ?_) (fun h34 => ?_)
    ·
      refine r_aload_n C dX8_canStand_65 rfl 1 rfl ?_
      refine r_get C (Cn := RX8) (T := TX8) (N := 18) (id := 135) (by decide) inw_X8 rfl rfl 6 (by decide) rfl fl_X8_22 rfl dX8_canStand_66 ?_
      refine r_iload_n C dX8_canStand_69 rfl 2 rfl ?_
      refine r_iald C (id := 140) (n := 60) (a := k) (by decide) rfl (by omega) (by decide) dX8_canStand_70 ?_
      refine r_bipush C (nI 44) dX8_canStand_71 (by decide) ?_
      refine r_icmp_ne C 80 dX8_canStand_73 (by decide) (fun h73 => ?_) (fun h73 => ?_)
      ·
        refine r_iconst C (nI 0) dX8_canStand_80 (by decide) ?_
        exact E 0 _ _ _ _ (Nat.le_of_ble_eq_true rfl) dX8_canStand_81 rfl (⟨bI_off (by simp [csz, h13, h34, h73]), rfl⟩)
      ·
        refine r_iconst C (nI 1) dX8_canStand_76 (by decide) ?_
        refine r_goto C 81 dX8_canStand_77 (by decide) ?_
        exact E 0 _ _ _ _ (Nat.le_of_ble_eq_true rfl) dX8_canStand_81 rfl (⟨bI_on (by simp [csz, h13, h34, h73]), rfl⟩)
    ·
      refine r_iload_n C dX8_canStand_37 rfl 0 rfl ?_
      refine r_aload_n C dX8_canStand_38 rfl 1 rfl ?_
      refine r_get C (Cn := RX8) (T := TX8) (N := 18) (id := 135) (by decide) inw_X8 rfl rfl 6 (by decide) rfl fl_X8_22 rfl dX8_canStand_39 ?_
      refine r_iload_n C dX8_canStand_42 rfl 2 rfl ?_
      refine r_iconst C (nI 1) dX8_canStand_43 (by decide) ?_
      refine r_isub C dX8_canStand_44 ?_
      refine r_topi (pk_sub (a := k) (b := 1) (by omega)) ?_
      refine r_iald C (id := 140) (n := 60) (a := k - 1) (by decide) rfl (by omega) (by decide) dX8_canStand_45 ?_
      refine r_bipush C (nI 48) dX8_canStand_46 (by decide) ?_
      refine r_isub C dX8_canStand_48 ?_
      refine r_iconst C (nI 1) dX8_canStand_49 (by decide) ?_
      refine r_iadd C dX8_canStand_50 ?_
      refine r_aload_n C dX8_canStand_51 rfl 1 rfl ?_
      refine r_get C (Cn := RX8) (T := TX8) (N := 18) (id := 135) (by decide) inw_X8 rfl rfl 0 (by decide) rfl fl_X8_7 rfl dX8_canStand_52 ?_
      refine r_iconst C (nI 0) dX8_canStand_55 (by decide) ?_
      refine r_iald C (id := 136) (n := 55) (a := 0) (by decide) rfl (by decide) (by decide) dX8_canStand_56 ?_
      refine r_topi hn ?_
      refine r_iconst C (nI 1) dX8_canStand_57 (by decide) ?_
      refine r_isub C dX8_canStand_58 ?_
      refine r_pcallS_i (nA := 3) C (Nat.le_of_ble_eq_true rfl) [.int ((M.1 140 k) - (nI 48)), .int (((M.1 140 (k - 1)) - (nI 48)) + (nI 1)), .int ((nI n) - (nI 1))] (c_X8_within l D cs ad M ((M.1 140 k) - (nI 48)) (((M.1 140 (k - 1)) - (nI 48)) + (nI 1)) ((nI n) - (nI 1)) ) (tt_S ml_X8_48 st_X8_within in_X8 co_X8_within) ⟨rfl, rfl⟩ ⟨rfl, by decide, by decide, by decide⟩ ⟨Nat.le_of_ble_eq_true rfl, Nat.le_of_ble_eq_true rfl⟩ rfl rfl (Nat.le_of_ble_eq_true rfl) dX8_canStand_59 ?_
      refine r_goto C 81 dX8_canStand_62 (by decide) ?_
      exact E 0 _ _ _ _ (Nat.le_of_ble_eq_true rfl) dX8_canStand_81 (bI_n _) (⟨by simp [csz, h13, h34], rfl⟩)
  ·
    refine r_iload_n C dX8_canStand_16 rfl 0 rfl ?_
    refine r_iconst C (nI 0) dX8_canStand_17 (by decide) ?_
    refine r_aload_n C dX8_canStand_18 rfl 1 rfl ?_
    refine r_get C (Cn := RX8) (T := TX8) (N := 18) (id := 135) (by decide) inw_X8 rfl rfl 0 (by decide) rfl fl_X8_7 rfl dX8_canStand_19 ?_
    refine r_iconst C (nI 0) dX8_canStand_22 (by decide) ?_
    refine r_iald C (id := 136) (n := 55) (a := 0) (by decide) rfl (by decide) (by decide) dX8_canStand_23 ?_
    refine r_topi hn ?_
    refine r_iconst C (nI 2) dX8_canStand_24 (by decide) ?_
    refine r_isub C dX8_canStand_25 ?_
    refine r_pcallS_i (nA := 3) C (Nat.le_of_ble_eq_true rfl) [.int ((M.1 140 k) - (nI 48)), .int (nI 0), .int ((nI n) - (nI 2))] (c_X8_within l D cs ad M ((M.1 140 k) - (nI 48)) (nI 0) ((nI n) - (nI 2)) ) (tt_S ml_X8_48 st_X8_within in_X8 co_X8_within) ⟨rfl, rfl⟩ ⟨rfl, by decide, by decide, by decide⟩ ⟨Nat.le_of_ble_eq_true rfl, Nat.le_of_ble_eq_true rfl⟩ rfl rfl (Nat.le_of_ble_eq_true rfl) dX8_canStand_26 ?_
    exact E 0 _ _ _ _ (Nat.le_of_ble_eq_true rfl) dX8_canStand_29 (bI_n _) (⟨by simp [csz, h13], rfl⟩)
set_option maxRecDepth 100000 in
set_option maxHeartbeats 4000000 in
theorem c_X8_rightUpTo (l : Launch) (D : va_G) (cs : Nat → ClassId) (ad : Nat → Nat) (M : Mm) (n : Nat) (hn : M.1 136 0 = nI n) (hn8 : n ≤ 8) (len : Nat) (hl : M.1 135 5 = nI len) (hl60 : len ≤ 60) : ∀ sz : Nat, Met l yX8_rightUpTo (.code yX8_rightUpTo cX8_rightUpTo 2 (some .int) :: TT) { frames := 2, cells := 0, slots := 0, locals := 44 } (va_Pc [.ref (ad 135)] (fun U9 => U9.heap.size = sz ∧ wB D cs ad (fA ad sz) M U9)) (va_Qi (fun r M2 => r = nI (rut (M.1 140) n len) ∧ M2 = M) (wB D cs ad (fA ad sz)) (fA ad sz)) 0 0 (fA ad sz) := by
  refine st_I (by decide) (Nat.le_of_ble_eq_true rfl) (fun κ C E => ?_)
  refine r_lv (lv2 := [(0, .ref (ad 135))]) [0] rfl ?_
  refine r_iconst C (nI 0) dX8_rightUpTo_0 (by decide) ?_
  refine r_istore_n C [(1, .int (nI 0)), (0, .ref (ad 135))] dX8_rightUpTo_1 rfl (by decide) rfl ?_
  have Lp : ∀ (f k : Nat), len + 1 ≤ k + f → k ≤ len → (∀ j, j < k → (!csz (M.1 140) n j) = false) → VV l D cs ad 2 κ 0 M 2 [(1, .int (nI k)), (0, .ref (ad 135))] [] := by
    intro f
    induction f with
    | zero => intro k hk1 hk2 hI; exact absurd hk1 (by omega)
    | succ f ih =>
      intro k hk1 hk2 hI
      refine r_iload_n C dX8_rightUpTo_2 rfl 0 rfl ?_
      refine r_aload_n C dX8_rightUpTo_3 rfl 1 rfl ?_
      refine r_get C (Cn := RX8) (T := TX8) (N := 18) (id := 135) (by decide) inw_X8 rfl rfl 5 (by decide) rfl fl_X8_168 rfl dX8_rightUpTo_4 ?_
      refine r_topi hl ?_
      refine r_icmpN_ge C 24 dX8_rightUpTo_7 (by decide) (by omega) (by omega) (fun h7 => ?_) (fun h7 => ?_)
      ·
        have hk9 : len = k := by omega
        subst hk9
        refine r_iload_n C dX8_rightUpTo_24 rfl 0 rfl ?_
        exact E 0 _ _ _ _ (Nat.le_of_ble_eq_true rfl) dX8_rightUpTo_25 (⟨congrArg nI (fi_none hI).symm, rfl⟩)
      ·
        refine r_aload_n C dX8_rightUpTo_10 rfl 1 rfl ?_
        refine r_iload_n C dX8_rightUpTo_11 rfl 0 rfl ?_
        refine r_pcallV_i (nA := 1) C (Nat.le_of_ble_eq_true rfl) [.int (nI k)] (c_X8_canStand l D cs ad M k (by omega) n hn hn8) (tt_V ml_X8_171 im_X8_canStand se_X8_canStand in_X8 co_X8_canStand) ⟨rfl, rfl⟩ ⟨rfl, by decide, by decide, by decide⟩ ⟨Nat.le_of_ble_eq_true rfl, Nat.le_of_ble_eq_true rfl⟩ (by decide) rfl rfl rfl rfl rfl (Nat.le_of_ble_eq_true rfl) dX8_rightUpTo_12 ?_
        refine r_ifB_eq C 24 dX8_rightUpTo_15 (by decide) (fun h15 => ?_) (fun h15 => ?_)
        ·
          refine r_iload_n C dX8_rightUpTo_24 rfl 0 rfl ?_
          exact E 0 _ _ _ _ (Nat.le_of_ble_eq_true rfl) dX8_rightUpTo_25 (⟨congrArg nI (fi_at (by omega) (by simp [h7, h15]) hI).symm, rfl⟩)
        ·
          refine r_iinc C (nI (k + 1)) [(1, .int (nI (k + 1))), (0, .ref (ad 135))] dX8_rightUpTo_18 (j := 0) rfl (inc_n k 1) (by decide) rfl ?_
          refine r_goto C 2 dX8_rightUpTo_21 (by decide) ?_
          refine r_lv (lv2 := [(1, .int (nI (k + 1))), (0, .ref (ad 135))]) [0, 1] rfl ?_
          exact ih (k + 1) (by omega) (by omega) (lt_s hI (by simp [h7, h15]))
  refine r_lv (lv2 := [(1, .int (nI 0)), (0, .ref (ad 135))]) [0, 1] rfl ?_
  exact Lp (len + 1) 0 (by omega) (by omega) (fun j hj => absurd hj (Nat.not_lt_zero j))
set_option maxRecDepth 100000 in
set_option maxHeartbeats 4000000 in
theorem c_X8_firstError (l : Launch) (D : va_G) (cs : Nat → ClassId) (ad : Nat → Nat) (M : Mm) (n : Nat) (hn : M.1 136 0 = nI n) (hn8 : n ≤ 8) (len : Nat) (hl : M.1 135 5 = nI len) (hl60 : len ≤ 60) : ∀ sz : Nat, Met l yX8_firstError (.code yX8_firstError cX8_firstError 1 (some .int) :: TT) { frames := 3, cells := 0, slots := 0, locals := 65 } (va_Pc [.ref (ad 135)] (fun U9 => U9.heap.size = sz ∧ wB D cs ad (fA ad sz) M U9)) (va_Qi (fun r M2 => r = nI (rut (M.1 140) n len) ∧ M2 = (mI M 135 7 (nI 0))) (wB D cs ad (fA ad sz)) (fA ad sz)) 0 0 (fA ad sz) := by
  refine st_I (by decide) (Nat.le_of_ble_eq_true rfl) (fun κ C E => ?_)
  refine r_lv (lv2 := [(0, .ref (ad 135))]) [0] rfl ?_
  refine r_aload_n C dX8_firstError_0 rfl 0 rfl ?_
  refine r_iconst C (nI 0) dX8_firstError_1 (by decide) ?_
  refine r_put C (M2 := (mI M 135 7 (nI 0))) (Cn := RX8) (T := TX8) (N := 18) (id := 135) (by decide) inw_X8 tyX8_ok nmX8 rfl rfl 7 (by decide) rfl fl_X8_41 rfl rfl (rfl) (Nat.le_of_ble_eq_true rfl) (fun j hj => ⟨mI_ne _ hj, rfl⟩) rfl dX8_firstError_2 ?_
  refine r_aload_n C dX8_firstError_5 rfl 0 rfl ?_
  refine r_pcallV_i (nA := 0) C (Nat.le_of_ble_eq_true rfl) [] (c_X8_rightUpTo l D cs ad (mI M 135 7 (nI 0))  n hn hn8 len hl hl60) (tt_V ml_X8_174 im_X8_rightUpTo se_X8_rightUpTo in_X8 co_X8_rightUpTo) ⟨rfl, rfl⟩ ⟨rfl, by decide, by decide, by decide⟩ ⟨Nat.le_of_ble_eq_true rfl, Nat.le_of_ble_eq_true rfl⟩ (by decide) rfl rfl rfl rfl rfl (Nat.le_of_ble_eq_true rfl) dX8_firstError_6 ?_
  refine r_topi (w := nI (rut (M.1 140) n len)) rfl ?_
  exact E 0 _ _ _ _ (Nat.le_of_ble_eq_true rfl) dX8_firstError_9 (⟨rfl, rfl⟩)
