/-! ===== the reference's handles (written by wip/whole/gen/model7.py) ===== -/
def cD (code b t : Nat) : Nat := code / b ^ t
theorem cD_0 (code b : Nat) : cD code b 0 = code := by unfold cD; rw [Nat.pow_zero, Nat.div_one]
theorem cD_s (code b t : Nat) : cD code b t / b = cD code b (t + 1) := by unfold cD; rw [Nat.pow_succ, Nat.div_div_eq_div_mul]
theorem cD_le (code b t : Nat) : cD code b t ≤ code := Nat.div_le_self _ _
/-- the number at a place of the handle that has this code -/
def hnD (d code b size p : Nat) : Int32 := nI (cD code b (d - 1 - p) % b) - nI size
def hnR (z : Nat → Int32) (d code b size t : Nat) : Nat → Int32 := fun j => if 50 + (d - t) ≤ j ∧ j < 50 + d then hnD d code b size (j - 50) else z j
theorem hnR_0 (z : Nat → Int32) (d code b size : Nat) : hnR z d code b size 0 = z := by funext j; unfold hnR; rw [if_neg (by omega)]
theorem hnR_s {z : Nat → Int32} {d code b size t : Nat} (h : t < d) : upd (hnR z d code b size t) (50 + (d - t - 1)) (nI (cD code b t % b) - nI size) = hnR z d code b size (t + 1) := by
  funext j; simp only [hnR, upd]
  by_cases e : j = 50 + (d - t - 1)
  · rw [if_pos e, if_pos (by omega)]
    unfold hnD
    have : d - 1 - (j - 50) = t := by omega
    rw [this]
  · rw [if_neg e]
    by_cases q : 50 + (d - t) ≤ j ∧ j < 50 + d
    · rw [if_pos q, if_pos (by omega)]
    · rw [if_neg q, if_neg (by omega)]
theorem plt0 {a : Nat} (h : a ≤ 4) : nI a - nI 1 < 0 ↔ a = 0 := by
  have : ∀ a : Fin 5, nI a.val - nI 1 < 0 ↔ a.val = 0 := by decide +kernel
  exact this ⟨a, by omega⟩
theorem pls {a : Nat} (h : a ≤ 4) (h0 : 0 < a) : nI a - nI 1 + Int32.ofInt (-1) = nI (a - 1) - nI 1 := by
  have : ∀ a : Fin 5, 0 < a.val → nI a.val - nI 1 + Int32.ofInt (-1) = nI (a.val - 1) - nI 1 := by decide +kernel
  exact this ⟨a, by omega⟩ h0
set_option maxRecDepth 100000 in
set_option maxHeartbeats 4000000 in
theorem c_X8_setHandle (l : Launch) (D : va_G) (cs : Nat → ClassId) (ad : Nat → Nat) (M : Mm) (code size b : Nat) (d : Nat) (hd : M.1 136 1 = nI d) (hd4 : d ≤ 4) (hb : 2 * size + 1 = b) (hs : size ≤ 2) (hc : code < 2 ^ 31) : ∀ sz : Nat, Met l yX8_setHandle (.code yX8_setHandle cX8_setHandle 5 none :: TT) { frames := 0, cells := 0, slots := 0, locals := 0 } (va_Pc [.ref (ad 135), .int (nI code), .int (nI size)] (fun U9 => U9.heap.size = sz ∧ wB D cs ad (fA ad sz) M U9)) (va_Qv (fun M2 => M2 = mA M 136 (hnR (M.1 136) d code b size d)) (wB D cs ad (fA ad sz)) (fA ad sz)) 0 0 (fA ad sz) := by
  refine st_V (by decide) (Nat.le_of_ble_eq_true rfl) (fun κ C E => ?_)
  refine r_lv (lv2 := [(0, .ref (ad 135)), (1, .int (nI code)), (2, .int (nI size))]) [0, 1, 2] rfl ?_
  refine r_iload_n C dX8_setHandle_0 rfl 1 rfl ?_
  refine r_topi (w := nI (cD code b 0)) ((congrArg nI (cD_0 _ _)).symm) ?_
  refine r_istore_n C [(3, .int (nI (cD code b 0))), (0, .ref (ad 135)), (1, .int (nI code)), (2, .int (nI size))] dX8_setHandle_1 rfl (by decide) rfl ?_
  refine r_aload_n C dX8_setHandle_2 rfl 1 rfl ?_
  refine r_get C (Cn := RX8) (T := TX8) (N := 18) (id := 135) (by decide) inw_X8 rfl rfl 0 (by decide) rfl fl_X8_7 rfl dX8_setHandle_3 ?_
  refine r_iconst C (nI 1) dX8_setHandle_6 (by decide) ?_
  refine r_iald C (id := 136) (n := 55) (a := 1) (by decide) rfl (by decide) (by decide) dX8_setHandle_7 ?_
  refine r_topi hd ?_
  refine r_iconst C (nI 1) dX8_setHandle_8 (by decide) ?_
  refine r_isub C dX8_setHandle_9 ?_
  refine r_istore C [(4, .int ((nI d) - (nI 1))), (3, .int (nI (cD code b 0))), (0, .ref (ad 135)), (1, .int (nI code)), (2, .int (nI size))] dX8_setHandle_10 (by decide) rfl ?_
  have Lp : ∀ (f_t t : Nat), d + 1 ≤ t + f_t → t ≤ d → VV l D cs ad 5 κ 0 (mA M 136 (hnR (M.1 136) d code b size t)) 12 [(4, .int (nI (d - t) - nI 1)), (3, .int (nI (cD code b t))), (0, .ref (ad 135)), (1, .int (nI code)), (2, .int (nI size))] [] := by
    intro f_t
    induction f_t with
    | zero => intro t hk1_t hk2_t; exact absurd hk1_t (by omega)
    | succ f_t ih_t =>
      intro t hk1_t hk2_t
      refine r_iload C dX8_setHandle_12 0 rfl ?_
      refine r_if_lt C 50 dX8_setHandle_14 (by decide) (fun h14 => ?_) (fun h14 => ?_)
      ·
        rw [plt0 (by omega)] at h14
        have hk9 : d = t := by omega
        subst hk9
        exact E 0 _ _ _ (Nat.le_of_ble_eq_true rfl) dX8_setHandle_50 (rfl)
      ·
        rw [plt0 (by omega)] at h14
        have c9 := cD_le code b t
        refine r_aload_n C dX8_setHandle_17 rfl 2 rfl ?_
        refine r_get C (Cn := RX8) (T := TX8) (N := 18) (id := 135) (by decide) inw_X8 rfl rfl 0 (by decide) rfl fl_X8_7 rfl dX8_setHandle_18 ?_
        refine r_bipush C (nI 50) dX8_setHandle_21 (by decide) ?_
        refine r_iload C dX8_setHandle_23 0 rfl ?_
        refine r_topi (w := nI (d - t - 1)) (pk_sub (by omega)) ?_
        refine r_iadd C dX8_setHandle_25 ?_
        refine r_topi (nI_add 50 (d - t - 1)) ?_
        refine r_iload_n C dX8_setHandle_26 rfl 1 rfl ?_
        refine r_iconst C (nI 2) dX8_setHandle_27 (by decide) ?_
        refine r_iload_n C dX8_setHandle_28 rfl 4 rfl ?_
        refine r_imul C dX8_setHandle_29 ?_
        refine r_topi (pk_mul 2 size) ?_
        refine r_iconst C (nI 1) dX8_setHandle_30 (by decide) ?_
        refine r_iadd C dX8_setHandle_31 ?_
        refine r_topi (nI_add (2 * size) 1) ?_
        refine r_topi (w := nI b) (congrArg nI hb) ?_
        refine r_irem C dX8_setHandle_32 (nI_ne0 (by omega) (by omega)) ?_
        refine r_topi (pk_rem (a := cD code b t) (d := b) (by omega) (by omega) (by omega)) ?_
        refine r_iload_n C dX8_setHandle_33 rfl 4 rfl ?_
        refine r_isub C dX8_setHandle_34 ?_
        refine r_iast C (id := 136) (n := 55) (a := 50 + (d - t - 1)) (by decide) (fun _ => rfl) (by omega) (by decide) dX8_setHandle_35 ?_
        refine r_iload_n C dX8_setHandle_36 rfl 1 rfl ?_
        refine r_iconst C (nI 2) dX8_setHandle_37 (by decide) ?_
        refine r_iload_n C dX8_setHandle_38 rfl 4 rfl ?_
        refine r_imul C dX8_setHandle_39 ?_
        refine r_topi (pk_mul 2 size) ?_
        refine r_iconst C (nI 1) dX8_setHandle_40 (by decide) ?_
        refine r_iadd C dX8_setHandle_41 ?_
        refine r_topi (nI_add (2 * size) 1) ?_
        refine r_topi (w := nI b) (congrArg nI hb) ?_
        refine r_idiv C dX8_setHandle_42 (nI_ne0 (by omega) (by omega)) ?_
        refine r_topi (pk_div (a := cD code b t) (d := b) (by omega) (by omega) (by omega)) ?_
        refine r_topi (w := nI (cD code b (t + 1))) (congrArg nI (cD_s _ _ _)) ?_
        refine r_istore_n C [(3, .int (nI (cD code b (t + 1)))), (4, .int (nI (d - t) - nI 1)), (0, .ref (ad 135)), (1, .int (nI code)), (2, .int (nI size))] dX8_setHandle_43 rfl (by decide) rfl ?_
        refine r_iinc C ((nI (d - (t + 1)) - nI 1)) [(4, .int (nI (d - (t + 1)) - nI 1)), (3, .int (nI (cD code b (t + 1)))), (0, .ref (ad 135)), (1, .int (nI code)), (2, .int (nI size))] dX8_setHandle_44 (j := 1) rfl ((pls (by omega) (by omega)).trans (by rw [Nat.sub_sub])) (by decide) rfl ?_
        refine r_goto C 12 dX8_setHandle_47 (by decide) ?_
        refine r_lv (lv2 := [(4, .int (nI (d - (t + 1)) - nI 1)), (3, .int (nI (cD code b (t + 1)))), (0, .ref (ad 135)), (1, .int (nI code)), (2, .int (nI size))]) [0, 1, 2, 3, 4] rfl ?_
        refine r_mem (M2 := (mA M 136 (hnR (M.1 136) d code b size (t + 1)))) (by rw [mIA, hnR_s (by omega)]) ?_
        exact ih_t (t + 1) (by omega) (by omega)
  refine r_lv (lv2 := [(4, .int (nI (d - 0) - nI 1)), (3, .int (nI (cD code b 0))), (0, .ref (ad 135)), (1, .int (nI code)), (2, .int (nI size))]) [0, 1, 2, 3, 4] rfl ?_
  refine r_mem (M2 := (mA M 136 (hnR (M.1 136) d code b size 0))) (mA_id (hnR_0 _ _ _ _ _)) ?_
  exact Lp (d + 1) 0 (by omega) (by omega)
