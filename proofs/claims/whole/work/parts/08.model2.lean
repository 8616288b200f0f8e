/-! ===== the reference's looks (written by wip/whole/gen/model2.py) ===== -/
/-- the first k below N with p, N if there is none -/
def fi (p : Nat → Bool) : Nat → Nat
  | 0 => 0
  | n + 1 => if fi p n < n then fi p n else if p n then n else n + 1
theorem fi_le (p : Nat → Bool) : ∀ n, fi p n ≤ n
  | 0 => Nat.le_refl 0
  | n + 1 => by
    have h := fi_le p n
    unfold fi
    split
    · omega
    · split <;> omega
theorem fi_none {p : Nat → Bool} : ∀ {n : Nat}, (∀ j, j < n → p j = false) → fi p n = n
  | 0, _ => rfl
  | n + 1, h => by
    have h1 := fi_none (n := n) (fun j hj => h j (by omega))
    unfold fi
    rw [h1, if_neg (Nat.lt_irrefl _), h n (by omega)]
    rfl
theorem fi_at {p : Nat → Bool} : ∀ {n k : Nat}, k < n → p k = true → (∀ j, j < k → p j = false) → fi p n = k
  | 0, k, h, _, _ => absurd h (Nat.not_lt_zero k)
  | n + 1, k, h, hp, h0 => by
    unfold fi
    rcases Nat.lt_or_ge k n with q | q
    · rw [fi_at q hp h0, if_pos q]
    · have e : k = n := by omega
      subst e
      rw [fi_none h0, if_neg (Nat.lt_irrefl _), hp]
      rfl
def fiR (p : Nat → Bool) (N : Nat) : Int32 := if fi p N < N then nI (fi p N) else -1
theorem fiR_at {p : Nat → Bool} {N k : Nat} (h : k < N) (hp : p k = true) (h0 : ∀ j, j < k → p j = false) : nI k = fiR p N := by
  unfold fiR
  rw [fi_at h hp h0, if_pos h]
theorem fiR_no {p : Nat → Bool} {N : Nat} (h0 : ∀ j, j < N → p j = false) : -1 = fiR p N := by
  unfold fiR
  rw [fi_none h0, if_neg (Nat.lt_irrefl _)]
def mfp (z : Nat → Int32) (k : Nat) : Bool := !decide (k % 8 ≤ k / 8) && bt (z (10 + k / 8)) (k % 8) && !decide (dotz z (18 + 4 * (k / 8)) (18 + 4 * (k % 8)) = 0)
def upr (z : Nat → Int32) (v : Nat) : Bool := !decide (z (2 + v) ≤ 0) && decide (dotz z 50 (18 + 4 * v) = 0)
def mfR (z : Nat → Int32) (n : Nat) : Int32 := fiR (mfp z) (8 * n)
def upR (z : Nat → Int32) (n : Nat) : Int32 := fiR (upr z) n
def rsz (z : Nat → Int32) (n : Nat) : Int32 := if mfR z n = -1 then (if upR z n = -1 then nI 0 else nI 2) else nI 1
def icl (z : Nat → Int32) (x : Int32) : Nat → Bool
  | 0 => true
  | v + 1 => icl z x v && (!bt x v || decide ((x &&& ntI (z (10 + v))) &&& ntI (s1 v) = 0))
def wz (z : Nat → Int32) (n : Nat) (x : Int32) : Int32 := sI (fun v => if bt x v = true then z (2 + v) else nI 0) n
def hvc (z : Nat → Int32) (n : Nat) (w : Int32) (s : Nat) : Bool := decide (w &&& ntI (nI s) = 0) && icl z (nI s) n
def hvS (z : Nat → Int32) (n : Nat) (w : Int32) : Nat → Int32
  | 0 => -1
  | s + 1 => if hvc z n w s = true ∧ (hvS z n w s = -1 ∨ ¬ wz z n (nI s) ≤ wz z n (hvS z n w s)) then nI s else hvS z n w s
def hvz (z : Nat → Int32) (n : Nat) (w : Int32) : Int32 := hvS z n w (2 ^ n)
def mvS (z : Nat → Int32) (n : Nat) : Nat → Int32
  | 0 => nI 0
  | s + 1 => if ¬ on8 (nI s) ≤ mvS z n s ∧ icl z (nI s) n = true then on8 (nI s) else mvS z n s
theorem shl1 {n : Nat} (h : n < 31) : s1 n = nI (2 ^ n) := by
  have : ∀ n : Fin 31, s1 n.val = nI (2 ^ n.val) := by decide +kernel
  exact this ⟨n, h⟩
theorem p2_le {n : Nat} (h : n ≤ 8) : 2 ^ n ≤ 256 := Nat.pow_le_pow_right (by decide) h
set_option maxRecDepth 100000 in
set_option maxHeartbeats 4000000 in
theorem c_X8_misfit (l : Launch) (D : va_G) (cs : Nat → ClassId) (ad : Nat → Nat) (M : Mm) (n : Nat) (hn : M.1 136 0 = nI n) (hn8 : n ≤ 8) : ∀ sz : Nat, Met l yX8_misfit (.code yX8_misfit cX8_misfit 4 (some .int) :: TT) { frames := 2, cells := 0, slots := 0, locals := 43 } (va_Pc [.ref (ad 135)] (fun U9 => U9.heap.size = sz ∧ wB D cs ad (fA ad sz) M U9)) (va_Qi (fun r M2 => r = mfR (M.1 136) n ∧ M2 = M) (wB D cs ad (fA ad sz)) (fA ad sz)) 0 0 (fA ad sz) := by
  refine st_I (by decide) (Nat.le_of_ble_eq_true rfl) (fun κ C E => ?_)
  refine r_lv (lv2 := [(0, .ref (ad 135))]) [0] rfl ?_
  refine r_iconst C (nI 0) dX8_misfit_0 (by decide) ?_
  refine r_istore_n C [(1, .int (nI 0)), (0, .ref (ad 135))] dX8_misfit_1 rfl (by decide) rfl ?_
  have Lp : ∀ (f k : Nat), 8 * n + 1 ≤ k + f → k ≤ 8 * n → (∀ j, j < k → mfp (M.1 136) j = false) → VV l D cs ad 4 κ 0 M 2 [(1, .int (nI k)), (0, .ref (ad 135))] [] := by
    intro f
    induction f with
    | zero => intro k hk1 hk2 hI; exact absurd hk1 (by omega)
    | succ f ih =>
      intro k hk1 hk2 hI
      refine r_iload_n C dX8_misfit_2 rfl 0 rfl ?_
      refine r_bipush C (nI 8) dX8_misfit_3 (by decide) ?_
      refine r_aload_n C dX8_misfit_5 rfl 1 rfl ?_
      refine r_get C (Cn := RX8) (T := TX8) (N := 18) (id := 135) (by decide) inw_X8 rfl rfl 0 (by decide) rfl fl_X8_7 rfl dX8_misfit_6 ?_
      refine r_iconst C (nI 0) dX8_misfit_9 (by decide) ?_
      refine r_iald C (id := 136) (n := 55) (a := 0) (by decide) rfl (by decide) (by decide) dX8_misfit_10 ?_
      refine r_topi hn ?_
      refine r_imul C dX8_misfit_11 ?_
      refine r_topi (pk_mul 8 n) ?_
      refine r_icmpN_ge C 62 dX8_misfit_12 (by decide) (by omega) (by omega) (fun h12 => ?_) (fun h12 => ?_)
      ·
        have hk9 : 8 * n = k := by omega
        subst hk9
        refine r_iconst C ((-1)) dX8_misfit_62 (by decide) ?_
        exact E 0 _ _ _ _ (Nat.le_of_ble_eq_true rfl) dX8_misfit_63 (⟨fiR_no hI, rfl⟩)
      ·
        refine r_iload_n C dX8_misfit_15 rfl 0 rfl ?_
        refine r_bipush C (nI 8) dX8_misfit_16 (by decide) ?_
        refine r_idiv C dX8_misfit_18 (by decide) ?_
        refine r_topi (pk_div (a := k) (d := 8) (by omega) (by omega) (by omega)) ?_
        refine r_istore_n C [(2, .int (nI (k / 8))), (1, .int (nI k)), (0, .ref (ad 135))] dX8_misfit_19 rfl (by decide) rfl ?_
        refine r_iload_n C dX8_misfit_20 rfl 1 rfl ?_
        refine r_bipush C (nI 8) dX8_misfit_21 (by decide) ?_
        refine r_irem C dX8_misfit_23 (by decide) ?_
        refine r_topi (pk_rem (a := k) (d := 8) (by omega) (by omega) (by omega)) ?_
        refine r_istore_n C [(3, .int (nI (k % 8))), (2, .int (nI (k / 8))), (1, .int (nI k)), (0, .ref (ad 135))] dX8_misfit_24 rfl (by decide) rfl ?_
        refine r_iload_n C dX8_misfit_25 rfl 1 rfl ?_
        refine r_iload_n C dX8_misfit_26 rfl 0 rfl ?_
        refine r_icmpN_ge C 56 dX8_misfit_27 (by decide) (by omega) (by omega) (fun h27 => ?_) (fun h27 => ?_)
        ·
          refine r_iinc C (nI (k + 1)) [(1, .int (nI (k + 1))), (3, .int (nI (k % 8))), (2, .int (nI (k / 8))), (0, .ref (ad 135))] dX8_misfit_56 (j := 2) rfl (inc_n k 1) (by decide) rfl ?_
          refine r_goto C 2 dX8_misfit_59 (by decide) ?_
          refine r_lv (lv2 := [(1, .int (nI (k + 1))), (0, .ref (ad 135))]) [0, 3] rfl ?_
          exact ih (k + 1) (by omega) (by omega) (lt_s hI (by simp [mfp, h12, h27]))
        ·
          refine r_aload_n C dX8_misfit_30 rfl 3 rfl ?_
          refine r_iload_n C dX8_misfit_31 rfl 1 rfl ?_
          refine r_iload_n C dX8_misfit_32 rfl 0 rfl ?_
          refine r_pcallV_i (nA := 2) C (Nat.le_of_ble_eq_true rfl) [.int (nI (k / 8)), .int (nI (k % 8))] (c_X8_areJoined l D cs ad M (k / 8) (k % 8) (by omega)) (tt_V ml_X8_67 im_X8_areJoined se_X8_areJoined in_X8 co_X8_areJoined) ⟨rfl, rfl⟩ ⟨rfl, by decide, by decide, by decide⟩ ⟨Nat.le_of_ble_eq_true rfl, Nat.le_of_ble_eq_true rfl⟩ (by decide) rfl rfl rfl rfl rfl (Nat.le_of_ble_eq_true rfl) dX8_misfit_33 ?_
          refine r_ifB_eq C 56 dX8_misfit_36 (by decide) (fun h36 => ?_) (fun h36 => ?_)
          ·
            refine r_iinc C (nI (k + 1)) [(1, .int (nI (k + 1))), (3, .int (nI (k % 8))), (2, .int (nI (k / 8))), (0, .ref (ad 135))] dX8_misfit_56 (j := 2) rfl (inc_n k 1) (by decide) rfl ?_
            refine r_goto C 2 dX8_misfit_59 (by decide) ?_
            refine r_lv (lv2 := [(1, .int (nI (k + 1))), (0, .ref (ad 135))]) [0, 3] rfl ?_
            exact ih (k + 1) (by omega) (by omega) (lt_s hI (by simp [mfp, h12, h27, h36]))
          ·
            refine r_aload_n C dX8_misfit_39 rfl 3 rfl ?_
            refine r_iload_n C dX8_misfit_40 rfl 1 rfl ?_
            refine r_pcallS_i (nA := 1) C (Nat.le_of_ble_eq_true rfl) [.int (nI (k / 8))] (c_X8_labelAt l D cs ad M (k / 8) ) (tt_S ml_X8_56 st_X8_labelAt in_X8 co_X8_labelAt) ⟨rfl, rfl⟩ ⟨rfl, by decide, by decide, by decide⟩ ⟨Nat.le_of_ble_eq_true rfl, Nat.le_of_ble_eq_true rfl⟩ rfl rfl (Nat.le_of_ble_eq_true rfl) dX8_misfit_41 ?_
            refine r_iload_n C dX8_misfit_44 rfl 0 rfl ?_
            refine r_pcallS_i (nA := 1) C (Nat.le_of_ble_eq_true rfl) [.int (nI (k % 8))] (c_X8_labelAt l D cs ad M (k % 8) ) (tt_S ml_X8_56 st_X8_labelAt in_X8 co_X8_labelAt) ⟨rfl, rfl⟩ ⟨rfl, by decide, by decide, by decide⟩ ⟨Nat.le_of_ble_eq_true rfl, Nat.le_of_ble_eq_true rfl⟩ rfl rfl (Nat.le_of_ble_eq_true rfl) dX8_misfit_45 ?_
            refine r_pcallV_i (nA := 2) C (Nat.le_of_ble_eq_true rfl) [.int (nI (18 + 4 * (k / 8))), .int (nI (18 + 4 * (k % 8)))] (c_X8_product l D cs ad M (18 + 4 * (k / 8)) (18 + 4 * (k % 8)) (by omega) (by omega)) (tt_V ml_X8_60 im_X8_product se_X8_product in_X8 co_X8_product) ⟨rfl, rfl⟩ ⟨rfl, by decide, by decide, by decide⟩ ⟨Nat.le_of_ble_eq_true rfl, Nat.le_of_ble_eq_true rfl⟩ (by decide) rfl rfl rfl rfl rfl (Nat.le_of_ble_eq_true rfl) dX8_misfit_48 ?_
            refine r_if_eq C 56 dX8_misfit_51 (by decide) (fun h51 => ?_) (fun h51 => ?_)
            ·
              refine r_iinc C (nI (k + 1)) [(1, .int (nI (k + 1))), (3, .int (nI (k % 8))), (2, .int (nI (k / 8))), (0, .ref (ad 135))] dX8_misfit_56 (j := 2) rfl (inc_n k 1) (by decide) rfl ?_
              refine r_goto C 2 dX8_misfit_59 (by decide) ?_
              refine r_lv (lv2 := [(1, .int (nI (k + 1))), (0, .ref (ad 135))]) [0, 3] rfl ?_
              exact ih (k + 1) (by omega) (by omega) (lt_s hI (by simp [mfp, h12, h27, h36, h51]))
            ·
              refine r_iload_n C dX8_misfit_54 rfl 2 rfl ?_
              exact E 0 _ _ _ _ (Nat.le_of_ble_eq_true rfl) dX8_misfit_55 (⟨fiR_at (by omega) (by simp [mfp, h12, h27, h36, h51]) hI, rfl⟩)
  refine r_lv (lv2 := [(1, .int (nI 0)), (0, .ref (ad 135))]) [0, 1] rfl ?_
  exact Lp ((8 * n) + 1) 0 (by omega) (by omega) (fun j hj => absurd hj (Nat.not_lt_zero j))
set_option maxRecDepth 100000 in
set_option maxHeartbeats 4000000 in
theorem c_X8_misfits (l : Launch) (D : va_G) (cs : Nat → ClassId) (ad : Nat → Nat) (M : Mm) (n : Nat) (hn : M.1 136 0 = nI n) (hn8 : n ≤ 8) : ∀ sz : Nat, Met l yX8_misfits (.code yX8_misfits cX8_misfits 5 (some .int) :: TT) { frames := 2, cells := 0, slots := 0, locals := 43 } (va_Pc [.ref (ad 135)] (fun U9 => U9.heap.size = sz ∧ wB D cs ad (fA ad sz) M U9)) (va_Qi (fun r M2 => r = sI (fun k => bI (mfp (M.1 136) k)) (8 * n) ∧ M2 = M) (wB D cs ad (fA ad sz)) (fA ad sz)) 0 0 (fA ad sz) := by
  refine st_I (by decide) (Nat.le_of_ble_eq_true rfl) (fun κ C E => ?_)
  refine r_lv (lv2 := [(0, .ref (ad 135))]) [0] rfl ?_
  refine r_iconst C (nI 0) dX8_misfits_0 (by decide) ?_
  refine r_istore_n C [(1, .int (nI 0)), (0, .ref (ad 135))] dX8_misfits_1 rfl (by decide) rfl ?_
  refine r_iconst C (nI 0) dX8_misfits_2 (by decide) ?_
  refine r_istore_n C [(2, .int (nI 0)), (1, .int (nI 0)), (0, .ref (ad 135))] dX8_misfits_3 rfl (by decide) rfl ?_
  have Lp : ∀ (f k : Nat), 8 * n + 1 ≤ k + f → k ≤ 8 * n → VV l D cs ad 5 κ 0 M 4 [(2, .int (nI k)), (1, .int (sI (fun k => bI (mfp (M.1 136) k)) k)), (0, .ref (ad 135))] [] := by
    intro f
    induction f with
    | zero => intro k hk1 hk2; exact absurd hk1 (by omega)
    | succ f ih =>
      intro k hk1 hk2
      refine r_iload_n C dX8_misfits_4 rfl 0 rfl ?_
      refine r_bipush C (nI 8) dX8_misfits_5 (by decide) ?_
      refine r_aload_n C dX8_misfits_7 rfl 2 rfl ?_
      refine r_get C (Cn := RX8) (T := TX8) (N := 18) (id := 135) (by decide) inw_X8 rfl rfl 0 (by decide) rfl fl_X8_7 rfl dX8_misfits_8 ?_
      refine r_iconst C (nI 0) dX8_misfits_11 (by decide) ?_
      refine r_iald C (id := 136) (n := 55) (a := 0) (by decide) rfl (by decide) (by decide) dX8_misfits_12 ?_
      refine r_topi hn ?_
      refine r_imul C dX8_misfits_13 ?_
      refine r_topi (pk_mul 8 n) ?_
      refine r_icmpN_ge C 74 dX8_misfits_14 (by decide) (by omega) (by omega) (fun h14 => ?_) (fun h14 => ?_)
      ·
        have hk9 : 8 * n = k := by omega
        subst hk9
        refine r_iload_n C dX8_misfits_74 rfl 1 rfl ?_
        exact E 0 _ _ _ _ (Nat.le_of_ble_eq_true rfl) dX8_misfits_75 (⟨rfl, rfl⟩)
      ·
        refine r_iload_n C dX8_misfits_17 rfl 0 rfl ?_
        refine r_bipush C (nI 8) dX8_misfits_18 (by decide) ?_
        refine r_idiv C dX8_misfits_20 (by decide) ?_
        refine r_topi (pk_div (a := k) (d := 8) (by omega) (by omega) (by omega)) ?_
        refine r_istore_n C [(3, .int (nI (k / 8))), (2, .int (nI k)), (1, .int (sI (fun k => bI (mfp (M.1 136) k)) k)), (0, .ref (ad 135))] dX8_misfits_21 rfl (by decide) rfl ?_
        refine r_iload_n C dX8_misfits_22 rfl 1 rfl ?_
        refine r_bipush C (nI 8) dX8_misfits_23 (by decide) ?_
        refine r_irem C dX8_misfits_25 (by decide) ?_
        refine r_topi (pk_rem (a := k) (d := 8) (by omega) (by omega) (by omega)) ?_
        refine r_istore C [(4, .int (nI (k % 8))), (3, .int (nI (k / 8))), (2, .int (nI k)), (1, .int (sI (fun k => bI (mfp (M.1 136) k)) k)), (0, .ref (ad 135))] dX8_misfits_26 (by decide) rfl ?_
        refine r_iload_n C dX8_misfits_28 rfl 3 rfl ?_
        refine r_iload_n C dX8_misfits_29 rfl 1 rfl ?_
        refine r_iload C dX8_misfits_30 0 rfl ?_
        refine r_icmpN_ge C 65 dX8_misfits_32 (by decide) (by omega) (by omega) (fun h32 => ?_) (fun h32 => ?_)
        ·
          refine r_iconst C (nI 0) dX8_misfits_65 (by decide) ?_
          refine r_topi (w := bI (mfp (M.1 136) k)) (bI_off (by simp [mfp, h14, h32])) ?_
          refine r_iadd C dX8_misfits_66 ?_
          refine r_istore_n C [(1, .int ((sI (fun k => bI (mfp (M.1 136) k)) k) + (bI (mfp (M.1 136) k)))), (4, .int (nI (k % 8))), (3, .int (nI (k / 8))), (2, .int (nI k)), (0, .ref (ad 135))] dX8_misfits_67 rfl (by decide) rfl ?_
          refine r_iinc C (nI (k + 1)) [(2, .int (nI (k + 1))), (1, .int ((sI (fun k => bI (mfp (M.1 136) k)) k) + (bI (mfp (M.1 136) k)))), (4, .int (nI (k % 8))), (3, .int (nI (k / 8))), (0, .ref (ad 135))] dX8_misfits_68 (j := 3) rfl (inc_n k 1) (by decide) rfl ?_
          refine r_goto C 4 dX8_misfits_71 (by decide) ?_
          refine r_lv (lv2 := [(2, .int (nI (k + 1))), (1, .int (sI (fun k => bI (mfp (M.1 136) k)) (k + 1))), (0, .ref (ad 135))]) [0, 1, 4] rfl ?_
          exact ih (k + 1) (by omega) (by omega)
        ·
          refine r_aload_n C dX8_misfits_35 rfl 4 rfl ?_
          refine r_iload_n C dX8_misfits_36 rfl 1 rfl ?_
          refine r_iload C dX8_misfits_37 0 rfl ?_
          refine r_pcallV_i (nA := 2) C (Nat.le_of_ble_eq_true rfl) [.int (nI (k / 8)), .int (nI (k % 8))] (c_X8_areJoined l D cs ad M (k / 8) (k % 8) (by omega)) (tt_V ml_X8_67 im_X8_areJoined se_X8_areJoined in_X8 co_X8_areJoined) ⟨rfl, rfl⟩ ⟨rfl, by decide, by decide, by decide⟩ ⟨Nat.le_of_ble_eq_true rfl, Nat.le_of_ble_eq_true rfl⟩ (by decide) rfl rfl rfl rfl rfl (Nat.le_of_ble_eq_true rfl) dX8_misfits_39 ?_
          refine r_ifB_eq C 65 dX8_misfits_42 (by decide) (fun h42 => ?_) (fun h42 => ?_)
          ·
            refine r_iconst C (nI 0) dX8_misfits_65 (by decide) ?_
            refine r_topi (w := bI (mfp (M.1 136) k)) (bI_off (by simp [mfp, h14, h32, h42])) ?_
            refine r_iadd C dX8_misfits_66 ?_
            refine r_istore_n C [(1, .int ((sI (fun k => bI (mfp (M.1 136) k)) k) + (bI (mfp (M.1 136) k)))), (4, .int (nI (k % 8))), (3, .int (nI (k / 8))), (2, .int (nI k)), (0, .ref (ad 135))] dX8_misfits_67 rfl (by decide) rfl ?_
            refine r_iinc C (nI (k + 1)) [(2, .int (nI (k + 1))), (1, .int ((sI (fun k => bI (mfp (M.1 136) k)) k) + (bI (mfp (M.1 136) k)))), (4, .int (nI (k % 8))), (3, .int (nI (k / 8))), (0, .ref (ad 135))] dX8_misfits_68 (j := 3) rfl (inc_n k 1) (by decide) rfl ?_
            refine r_goto C 4 dX8_misfits_71 (by decide) ?_
            refine r_lv (lv2 := [(2, .int (nI (k + 1))), (1, .int (sI (fun k => bI (mfp (M.1 136) k)) (k + 1))), (0, .ref (ad 135))]) [0, 1, 4] rfl ?_
            exact ih (k + 1) (by omega) (by omega)
          ·
            refine r_aload_n C dX8_misfits_45 rfl 4 rfl ?_
            refine r_iload_n C dX8_misfits_46 rfl 1 rfl ?_
            refine r_pcallS_i (nA := 1) C (Nat.le_of_ble_eq_true rfl) [.int (nI (k / 8))] (c_X8_labelAt l D cs ad M (k / 8) ) (tt_S ml_X8_56 st_X8_labelAt in_X8 co_X8_labelAt) ⟨rfl, rfl⟩ ⟨rfl, by decide, by decide, by decide⟩ ⟨Nat.le_of_ble_eq_true rfl, Nat.le_of_ble_eq_true rfl⟩ rfl rfl (Nat.le_of_ble_eq_true rfl) dX8_misfits_47 ?_
            refine r_iload C dX8_misfits_50 0 rfl ?_
            refine r_pcallS_i (nA := 1) C (Nat.le_of_ble_eq_true rfl) [.int (nI (k % 8))] (c_X8_labelAt l D cs ad M (k % 8) ) (tt_S ml_X8_56 st_X8_labelAt in_X8 co_X8_labelAt) ⟨rfl, rfl⟩ ⟨rfl, by decide, by decide, by decide⟩ ⟨Nat.le_of_ble_eq_true rfl, Nat.le_of_ble_eq_true rfl⟩ rfl rfl (Nat.le_of_ble_eq_true rfl) dX8_misfits_52 ?_
            refine r_pcallV_i (nA := 2) C (Nat.le_of_ble_eq_true rfl) [.int (nI (18 + 4 * (k / 8))), .int (nI (18 + 4 * (k % 8)))] (c_X8_product l D cs ad M (18 + 4 * (k / 8)) (18 + 4 * (k % 8)) (by omega) (by omega)) (tt_V ml_X8_60 im_X8_product se_X8_product in_X8 co_X8_product) ⟨rfl, rfl⟩ ⟨rfl, by decide, by decide, by decide⟩ ⟨Nat.le_of_ble_eq_true rfl, Nat.le_of_ble_eq_true rfl⟩ (by decide) rfl rfl rfl rfl rfl (Nat.le_of_ble_eq_true rfl) dX8_misfits_55 ?_
            refine r_if_eq C 65 dX8_misfits_58 (by decide) (fun h58 => ?_) (fun h58 => ?_)
            ·
              refine r_iconst C (nI 0) dX8_misfits_65 (by decide) ?_
              refine r_topi (w := bI (mfp (M.1 136) k)) (bI_off (by simp [mfp, h14, h32, h42, h58])) ?_
              refine r_iadd C dX8_misfits_66 ?_
              refine r_istore_n C [(1, .int ((sI (fun k => bI (mfp (M.1 136) k)) k) + (bI (mfp (M.1 136) k)))), (4, .int (nI (k % 8))), (3, .int (nI (k / 8))), (2, .int (nI k)), (0, .ref (ad 135))] dX8_misfits_67 rfl (by decide) rfl ?_
              refine r_iinc C (nI (k + 1)) [(2, .int (nI (k + 1))), (1, .int ((sI (fun k => bI (mfp (M.1 136) k)) k) + (bI (mfp (M.1 136) k)))), (4, .int (nI (k % 8))), (3, .int (nI (k / 8))), (0, .ref (ad 135))] dX8_misfits_68 (j := 3) rfl (inc_n k 1) (by decide) rfl ?_
              refine r_goto C 4 dX8_misfits_71 (by decide) ?_
              refine r_lv (lv2 := [(2, .int (nI (k + 1))), (1, .int (sI (fun k => bI (mfp (M.1 136) k)) (k + 1))), (0, .ref (ad 135))]) [0, 1, 4] rfl ?_
              exact ih (k + 1) (by omega) (by omega)
            ·
              refine r_iconst C (nI 1) dX8_misfits_61 (by decide) ?_
              refine r_goto C 66 dX8_misfits_62 (by decide) ?_
              refine r_topi (w := bI (mfp (M.1 136) k)) (bI_on (by simp [mfp, h14, h32, h42, h58])) ?_
              refine r_iadd C dX8_misfits_66 ?_
              refine r_istore_n C [(1, .int ((sI (fun k => bI (mfp (M.1 136) k)) k) + (bI (mfp (M.1 136) k)))), (4, .int (nI (k % 8))), (3, .int (nI (k / 8))), (2, .int (nI k)), (0, .ref (ad 135))] dX8_misfits_67 rfl (by decide) rfl ?_
              refine r_iinc C (nI (k + 1)) [(2, .int (nI (k + 1))), (1, .int ((sI (fun k => bI (mfp (M.1 136) k)) k) + (bI (mfp (M.1 136) k)))), (4, .int (nI (k % 8))), (3, .int (nI (k / 8))), (0, .ref (ad 135))] dX8_misfits_68 (j := 3) rfl (inc_n k 1) (by decide) rfl ?_
              refine r_goto C 4 dX8_misfits_71 (by decide) ?_
              refine r_lv (lv2 := [(2, .int (nI (k + 1))), (1, .int (sI (fun k => bI (mfp (M.1 136) k)) (k + 1))), (0, .ref (ad 135))]) [0, 1, 4] rfl ?_
              exact ih (k + 1) (by omega) (by omega)
  refine r_lv (lv2 := [(2, .int (nI 0)), (1, .int (sI (fun k => bI (mfp (M.1 136) k)) 0)), (0, .ref (ad 135))]) [0, 1, 2] rfl ?_
  exact Lp ((8 * n) + 1) 0 (by omega) (by omega)
set_option maxRecDepth 100000 in
set_option maxHeartbeats 4000000 in
theorem c_X8_unreached (l : Launch) (D : va_G) (cs : Nat → ClassId) (ad : Nat → Nat) (M : Mm) (n : Nat) (hn : M.1 136 0 = nI n) (hn8 : n ≤ 8) : ∀ sz : Nat, Met l yX8_unreached (.code yX8_unreached cX8_unreached 2 (some .int) :: TT) { frames := 2, cells := 0, slots := 0, locals := 45 } (va_Pc [.ref (ad 135)] (fun U9 => U9.heap.size = sz ∧ wB D cs ad (fA ad sz) M U9)) (va_Qi (fun r M2 => r = upR (M.1 136) n ∧ M2 = M) (wB D cs ad (fA ad sz)) (fA ad sz)) 0 0 (fA ad sz) := by
  refine st_I (by decide) (Nat.le_of_ble_eq_true rfl) (fun κ C E => ?_)
  refine r_lv (lv2 := [(0, .ref (ad 135))]) [0] rfl ?_
  refine r_iconst C (nI 0) dX8_unreached_0 (by decide) ?_
  refine r_istore_n C [(1, .int (nI 0)), (0, .ref (ad 135))] dX8_unreached_1 rfl (by decide) rfl ?_
  have Lp : ∀ (f k : Nat), n + 1 ≤ k + f → k ≤ n → (∀ j, j < k → upr (M.1 136) j = false) → VV l D cs ad 2 κ 0 M 2 [(1, .int (nI k)), (0, .ref (ad 135))] [] := by
    intro f
    induction f with
    | zero => intro k hk1 hk2 hI; exact absurd hk1 (by omega)
    | succ f ih =>
      intro k hk1 hk2 hI
      refine r_iload_n C dX8_unreached_2 rfl 0 rfl ?_
      refine r_aload_n C dX8_unreached_3 rfl 1 rfl ?_
      refine r_get C (Cn := RX8) (T := TX8) (N := 18) (id := 135) (by decide) inw_X8 rfl rfl 0 (by decide) rfl fl_X8_7 rfl dX8_unreached_4 ?_
      refine r_iconst C (nI 0) dX8_unreached_7 (by decide) ?_
      refine r_iald C (id := 136) (n := 55) (a := 0) (by decide) rfl (by decide) (by decide) dX8_unreached_8 ?_
      refine r_topi hn ?_
      refine r_icmpN_ge C 36 dX8_unreached_9 (by decide) (by omega) (by omega) (fun h9 => ?_) (fun h9 => ?_)
      ·
        have hk9 : n = k := by omega
        subst hk9
        refine r_iconst C ((-1)) dX8_unreached_36 (by decide) ?_
        exact E 0 _ _ _ _ (Nat.le_of_ble_eq_true rfl) dX8_unreached_37 (⟨fiR_no hI, rfl⟩)
      ·
        refine r_aload_n C dX8_unreached_12 rfl 1 rfl ?_
        refine r_iload_n C dX8_unreached_13 rfl 0 rfl ?_
        refine r_pcallV_i (nA := 1) C (Nat.le_of_ble_eq_true rfl) [.int (nI k)] (c_X8_weight l D cs ad M k (by omega)) (tt_V ml_X8_70 im_X8_weight se_X8_weight in_X8 co_X8_weight) ⟨rfl, rfl⟩ ⟨rfl, by decide, by decide, by decide⟩ ⟨Nat.le_of_ble_eq_true rfl, Nat.le_of_ble_eq_true rfl⟩ (by decide) rfl rfl rfl rfl rfl (Nat.le_of_ble_eq_true rfl) dX8_unreached_14 ?_
        refine r_if_le C 30 dX8_unreached_17 (by decide) (fun h17 => ?_) (fun h17 => ?_)
        ·
          refine r_iinc C (nI (k + 1)) [(1, .int (nI (k + 1))), (0, .ref (ad 135))] dX8_unreached_30 (j := 0) rfl (inc_n k 1) (by decide) rfl ?_
          refine r_goto C 2 dX8_unreached_33 (by decide) ?_
          refine r_lv (lv2 := [(1, .int (nI (k + 1))), (0, .ref (ad 135))]) [0, 1] rfl ?_
          exact ih (k + 1) (by omega) (by omega) (lt_s hI (by simp [upr, h9, h17]))
        ·
          refine r_aload_n C dX8_unreached_20 rfl 1 rfl ?_
          refine r_iload_n C dX8_unreached_21 rfl 0 rfl ?_
          refine r_pcallV_i (nA := 1) C (Nat.le_of_ble_eq_true rfl) [.int (nI k)] (c_X8_byHandle l D cs ad M k (by omega)) (tt_V ml_X8_73 im_X8_byHandle se_X8_byHandle in_X8 co_X8_byHandle) ⟨rfl, rfl⟩ ⟨rfl, by decide, by decide, by decide⟩ ⟨Nat.le_of_ble_eq_true rfl, Nat.le_of_ble_eq_true rfl⟩ (by decide) rfl rfl rfl rfl rfl (Nat.le_of_ble_eq_true rfl) dX8_unreached_22 ?_
          refine r_if_ne C 30 dX8_unreached_25 (by decide) (fun h25 => ?_) (fun h25 => ?_)
          ·
            refine r_iinc C (nI (k + 1)) [(1, .int (nI (k + 1))), (0, .ref (ad 135))] dX8_unreached_30 (j := 0) rfl (inc_n k 1) (by decide) rfl ?_
            refine r_goto C 2 dX8_unreached_33 (by decide) ?_
            refine r_lv (lv2 := [(1, .int (nI (k + 1))), (0, .ref (ad 135))]) [0, 1] rfl ?_
            exact ih (k + 1) (by omega) (by omega) (lt_s hI (by simp [upr, h9, h17, h25]))
          ·
            refine r_iload_n C dX8_unreached_28 rfl 0 rfl ?_
            exact E 0 _ _ _ _ (Nat.le_of_ble_eq_true rfl) dX8_unreached_29 (⟨fiR_at (by omega) (by simp [upr, h9, h17, h25]) hI, rfl⟩)
  refine r_lv (lv2 := [(1, .int (nI 0)), (0, .ref (ad 135))]) [0, 1] rfl ?_
  exact Lp (n + 1) 0 (by omega) (by omega) (fun j hj => absurd hj (Nat.not_lt_zero j))
set_option maxRecDepth 100000 in
set_option maxHeartbeats 4000000 in
theorem c_X8_reason (l : Launch) (D : va_G) (cs : Nat → ClassId) (ad : Nat → Nat) (M : Mm) (n : Nat) (hn : M.1 136 0 = nI n) (hn8 : n ≤ 8) : ∀ sz : Nat, Met l yX8_reason (.code yX8_reason cX8_reason 1 (some .int) :: TT) { frames := 3, cells := 0, slots := 0, locals := 66 } (va_Pc [.ref (ad 135)] (fun U9 => U9.heap.size = sz ∧ wB D cs ad (fA ad sz) M U9)) (va_Qi (fun r M2 => r = rsz (M.1 136) n ∧ M2 = M) (wB D cs ad (fA ad sz)) (fA ad sz)) 0 0 (fA ad sz) := by
  refine st_I (by decide) (Nat.le_of_ble_eq_true rfl) (fun κ C E => ?_)
  refine r_lv (lv2 := [(0, .ref (ad 135))]) [0] rfl ?_
  refine r_aload_n C dX8_reason_0 rfl 0 rfl ?_
  refine r_pcallV_i (nA := 0) C (Nat.le_of_ble_eq_true rfl) [] (c_X8_misfit l D cs ad M  n hn hn8) (tt_V ml_X8_76 im_X8_misfit se_X8_misfit in_X8 co_X8_misfit) ⟨rfl, rfl⟩ ⟨rfl, by decide, by decide, by decide⟩ ⟨Nat.le_of_ble_eq_true rfl, Nat.le_of_ble_eq_true rfl⟩ (by decide) rfl rfl rfl rfl rfl (Nat.le_of_ble_eq_true rfl) dX8_reason_1 ?_
  refine r_iconst C ((-1)) dX8_reason_4 (by decide) ?_
  refine r_icmp_eq C 12 dX8_reason_5 (by decide) (fun h5 => ?_) (fun h5 => ?_)
  ·
    refine r_aload_n C dX8_reason_12 rfl 0 rfl ?_
    refine r_pcallV_i (nA := 0) C (Nat.le_of_ble_eq_true rfl) [] (c_X8_unreached l D cs ad M  n hn hn8) (tt_V ml_X8_80 im_X8_unreached se_X8_unreached in_X8 co_X8_unreached) ⟨rfl, rfl⟩ ⟨rfl, by decide, by decide, by decide⟩ ⟨Nat.le_of_ble_eq_true rfl, Nat.le_of_ble_eq_true rfl⟩ (by decide) rfl rfl rfl rfl rfl (Nat.le_of_ble_eq_true rfl) dX8_reason_13 ?_
    refine r_iconst C ((-1)) dX8_reason_16 (by decide) ?_
    refine r_icmp_eq C 24 dX8_reason_17 (by decide) (fun h17 => ?_) (fun h17 => ?_)
    ·
      refine r_iconst C (nI 0) dX8_reason_24 (by decide) ?_
      exact E 0 _ _ _ _ (Nat.le_of_ble_eq_true rfl) dX8_reason_25 (⟨by simp [rsz, h5, h17], rfl⟩)
    ·
      refine r_iconst C (nI 2) dX8_reason_20 (by decide) ?_
      refine r_goto C 25 dX8_reason_21 (by decide) ?_
      exact E 0 _ _ _ _ (Nat.le_of_ble_eq_true rfl) dX8_reason_25 (⟨by simp [rsz, h5, h17], rfl⟩)
  ·
    refine r_iconst C (nI 1) dX8_reason_8 (by decide) ?_
    refine r_goto C 25 dX8_reason_9 (by decide) ?_
    exact E 0 _ _ _ _ (Nat.le_of_ble_eq_true rfl) dX8_reason_25 (⟨by simp [rsz, h5], rfl⟩)
set_option maxRecDepth 100000 in
set_option maxHeartbeats 4000000 in
theorem c_X8_isClique (l : Launch) (D : va_G) (cs : Nat → ClassId) (ad : Nat → Nat) (M : Mm) (x : Int32) (n : Nat) (hn : M.1 136 0 = nI n) (hn8 : n ≤ 8) : ∀ sz : Nat, Met l yX8_isClique (.code yX8_isClique cX8_isClique 4 (some .boolean) :: TT) { frames := 1, cells := 0, slots := 0, locals := 21 } (va_Pc [.ref (ad 135), .int x] (fun U9 => U9.heap.size = sz ∧ wB D cs ad (fA ad sz) M U9)) (va_Qi (fun r M2 => r = bI (icl (M.1 136) x n) ∧ M2 = M) (wB D cs ad (fA ad sz)) (fA ad sz)) 0 0 (fA ad sz) := by
  refine st_Z (by decide) (Nat.le_of_ble_eq_true rfl) (fun κ C E => ?_)
  refine r_lv (lv2 := [(0, .ref (ad 135)), (1, .int x)]) [0, 1] rfl ?_
  refine r_iconst C (nI 1) dX8_isClique_0 (by decide) ?_
  refine r_istore_n C [(2, .int (nI 1)), (0, .ref (ad 135)), (1, .int x)] dX8_isClique_1 rfl (by decide) rfl ?_
  refine r_iconst C (nI 0) dX8_isClique_2 (by decide) ?_
  refine r_istore_n C [(3, .int (nI 0)), (2, .int (nI 1)), (0, .ref (ad 135)), (1, .int x)] dX8_isClique_3 rfl (by decide) rfl ?_
  have Lp : ∀ (f k : Nat), n + 1 ≤ k + f → k ≤ n → VV l D cs ad 4 κ 0 M 4 [(3, .int (nI k)), (2, .int (bI (icl (M.1 136) x k))), (0, .ref (ad 135)), (1, .int x)] [] := by
    intro f
    induction f with
    | zero => intro k hk1 hk2; exact absurd hk1 (by omega)
    | succ f ih =>
      intro k hk1 hk2
      refine r_iload_n C dX8_isClique_4 rfl 0 rfl ?_
      refine r_aload_n C dX8_isClique_5 rfl 2 rfl ?_
      refine r_get C (Cn := RX8) (T := TX8) (N := 18) (id := 135) (by decide) inw_X8 rfl rfl 0 (by decide) rfl fl_X8_7 rfl dX8_isClique_6 ?_
      refine r_iconst C (nI 0) dX8_isClique_9 (by decide) ?_
      refine r_iald C (id := 136) (n := 55) (a := 0) (by decide) rfl (by decide) (by decide) dX8_isClique_10 ?_
      refine r_topi hn ?_
      refine r_icmpN_ge C 60 dX8_isClique_11 (by decide) (by omega) (by omega) (fun h11 => ?_) (fun h11 => ?_)
      ·
        have hk9 : n = k := by omega
        subst hk9
        refine r_iload_n C dX8_isClique_60 rfl 1 rfl ?_
        exact E 0 _ _ _ _ (Nat.le_of_ble_eq_true rfl) dX8_isClique_61 (bI_n _) (⟨rfl, rfl⟩)
      ·
        refine r_iload_n C dX8_isClique_14 rfl 1 rfl ?_
        refine r_ifB_eq C 52 dX8_isClique_15 (by decide) (fun h15 => ?_) (fun h15 => ?_)
        ·
          refine r_iconst C (nI 0) dX8_isClique_52 (by decide) ?_
          refine r_topi (w := bI (icl (M.1 136) x (k + 1))) (bI_off (by simp [icl, h11, h15])) ?_
          refine r_istore_n C [(2, .int (bI (icl (M.1 136) x (k + 1)))), (3, .int (nI k)), (0, .ref (ad 135)), (1, .int x)] dX8_isClique_53 rfl (by decide) rfl ?_
          refine r_iinc C (nI (k + 1)) [(3, .int (nI (k + 1))), (2, .int (bI (icl (M.1 136) x (k + 1)))), (0, .ref (ad 135)), (1, .int x)] dX8_isClique_54 (j := 1) rfl (inc_n k 1) (by decide) rfl ?_
          refine r_goto C 4 dX8_isClique_57 (by decide) ?_
          refine r_lv (lv2 := [(3, .int (nI (k + 1))), (2, .int (bI (icl (M.1 136) x (k + 1)))), (0, .ref (ad 135)), (1, .int x)]) [0, 1, 2, 3] rfl ?_
          exact ih (k + 1) (by omega) (by omega)
        ·
          refine r_iload_n C dX8_isClique_18 rfl 3 rfl ?_
          refine r_iload_n C dX8_isClique_19 rfl 0 rfl ?_
          refine r_pcallS_i (nA := 2) C (Nat.le_of_ble_eq_true rfl) [.int x, .int (nI k)] (c_X8_has l D cs ad M x k ) (tt_S ml_X8_52 st_X8_has in_X8 co_X8_has) ⟨rfl, rfl⟩ ⟨rfl, by decide, by decide, by decide⟩ ⟨Nat.le_of_ble_eq_true rfl, Nat.le_of_ble_eq_true rfl⟩ rfl rfl (Nat.le_of_ble_eq_true rfl) dX8_isClique_20 ?_
          refine r_ifB_eq C 48 dX8_isClique_23 (by decide) (fun h23 => ?_) (fun h23 => ?_)
          ·
            refine r_iconst C (nI 1) dX8_isClique_48 (by decide) ?_
            refine r_goto C 53 dX8_isClique_49 (by decide) ?_
            refine r_topi (w := bI (icl (M.1 136) x (k + 1))) (bI_on (by simp [icl, h11, h15, h23])) ?_
            refine r_istore_n C [(2, .int (bI (icl (M.1 136) x (k + 1)))), (3, .int (nI k)), (0, .ref (ad 135)), (1, .int x)] dX8_isClique_53 rfl (by decide) rfl ?_
            refine r_iinc C (nI (k + 1)) [(3, .int (nI (k + 1))), (2, .int (bI (icl (M.1 136) x (k + 1)))), (0, .ref (ad 135)), (1, .int x)] dX8_isClique_54 (j := 1) rfl (inc_n k 1) (by decide) rfl ?_
            refine r_goto C 4 dX8_isClique_57 (by decide) ?_
            refine r_lv (lv2 := [(3, .int (nI (k + 1))), (2, .int (bI (icl (M.1 136) x (k + 1)))), (0, .ref (ad 135)), (1, .int x)]) [0, 1, 2, 3] rfl ?_
            exact ih (k + 1) (by omega) (by omega)
          ·
            refine r_iload_n C dX8_isClique_26 rfl 3 rfl ?_
            refine r_aload_n C dX8_isClique_27 rfl 2 rfl ?_
            refine r_get C (Cn := RX8) (T := TX8) (N := 18) (id := 135) (by decide) inw_X8 rfl rfl 0 (by decide) rfl fl_X8_7 rfl dX8_isClique_28 ?_
            refine r_bipush C (nI 10) dX8_isClique_31 (by decide) ?_
            refine r_iload_n C dX8_isClique_33 rfl 0 rfl ?_
            refine r_iadd C dX8_isClique_34 ?_
            refine r_topi (nI_add 10 k) ?_
            refine r_iald C (id := 136) (n := 55) (a := 10 + k) (by decide) rfl (by omega) (by decide) dX8_isClique_35 ?_
            refine r_iconst C ((-1)) dX8_isClique_36 (by decide) ?_
            refine r_ixor C dX8_isClique_37 ?_
            refine r_topi (w := ntI (M.1 136 (10 + k))) rfl ?_
            refine r_iand C dX8_isClique_38 ?_
            refine r_iconst C (nI 1) dX8_isClique_39 (by decide) ?_
            refine r_iload_n C dX8_isClique_40 rfl 0 rfl ?_
            refine r_ishl C dX8_isClique_41 ?_
            refine r_topi (w := s1 k) rfl ?_
            refine r_iconst C ((-1)) dX8_isClique_42 (by decide) ?_
            refine r_ixor C dX8_isClique_43 ?_
            refine r_topi (w := ntI (s1 k)) rfl ?_
            refine r_iand C dX8_isClique_44 ?_
            refine r_if_ne C 52 dX8_isClique_45 (by decide) (fun h45 => ?_) (fun h45 => ?_)
            ·
              refine r_iconst C (nI 0) dX8_isClique_52 (by decide) ?_
              refine r_topi (w := bI (icl (M.1 136) x (k + 1))) (bI_off (by simp [icl, h11, h15, h23, h45])) ?_
              refine r_istore_n C [(2, .int (bI (icl (M.1 136) x (k + 1)))), (3, .int (nI k)), (0, .ref (ad 135)), (1, .int x)] dX8_isClique_53 rfl (by decide) rfl ?_
              refine r_iinc C (nI (k + 1)) [(3, .int (nI (k + 1))), (2, .int (bI (icl (M.1 136) x (k + 1)))), (0, .ref (ad 135)), (1, .int x)] dX8_isClique_54 (j := 1) rfl (inc_n k 1) (by decide) rfl ?_
              refine r_goto C 4 dX8_isClique_57 (by decide) ?_
              refine r_lv (lv2 := [(3, .int (nI (k + 1))), (2, .int (bI (icl (M.1 136) x (k + 1)))), (0, .ref (ad 135)), (1, .int x)]) [0, 1, 2, 3] rfl ?_
              exact ih (k + 1) (by omega) (by omega)
            ·
              refine r_iconst C (nI 1) dX8_isClique_48 (by decide) ?_
              refine r_goto C 53 dX8_isClique_49 (by decide) ?_
              refine r_topi (w := bI (icl (M.1 136) x (k + 1))) (bI_on (by simp [icl, h11, h15, h23, h45])) ?_
              refine r_istore_n C [(2, .int (bI (icl (M.1 136) x (k + 1)))), (3, .int (nI k)), (0, .ref (ad 135)), (1, .int x)] dX8_isClique_53 rfl (by decide) rfl ?_
              refine r_iinc C (nI (k + 1)) [(3, .int (nI (k + 1))), (2, .int (bI (icl (M.1 136) x (k + 1)))), (0, .ref (ad 135)), (1, .int x)] dX8_isClique_54 (j := 1) rfl (inc_n k 1) (by decide) rfl ?_
              refine r_goto C 4 dX8_isClique_57 (by decide) ?_
              refine r_lv (lv2 := [(3, .int (nI (k + 1))), (2, .int (bI (icl (M.1 136) x (k + 1)))), (0, .ref (ad 135)), (1, .int x)]) [0, 1, 2, 3] rfl ?_
              exact ih (k + 1) (by omega) (by omega)
  refine r_lv (lv2 := [(3, .int (nI 0)), (2, .int (bI (icl (M.1 136) x 0))), (0, .ref (ad 135)), (1, .int x)]) [0, 1, 2, 3] rfl ?_
  exact Lp (n + 1) 0 (by omega) (by omega)
set_option maxRecDepth 100000 in
set_option maxHeartbeats 4000000 in
theorem c_X8_weightOf (l : Launch) (D : va_G) (cs : Nat → ClassId) (ad : Nat → Nat) (M : Mm) (x : Int32) (n : Nat) (hn : M.1 136 0 = nI n) (hn8 : n ≤ 8) : ∀ sz : Nat, Met l yX8_weightOf (.code yX8_weightOf cX8_weightOf 4 (some .int) :: TT) { frames := 1, cells := 0, slots := 0, locals := 21 } (va_Pc [.ref (ad 135), .int x] (fun U9 => U9.heap.size = sz ∧ wB D cs ad (fA ad sz) M U9)) (va_Qi (fun r M2 => r = wz (M.1 136) n x ∧ M2 = M) (wB D cs ad (fA ad sz)) (fA ad sz)) 0 0 (fA ad sz) := by
  refine st_I (by decide) (Nat.le_of_ble_eq_true rfl) (fun κ C E => ?_)
  refine r_lv (lv2 := [(0, .ref (ad 135)), (1, .int x)]) [0, 1] rfl ?_
  refine r_iconst C (nI 0) dX8_weightOf_0 (by decide) ?_
  refine r_istore_n C [(2, .int (nI 0)), (0, .ref (ad 135)), (1, .int x)] dX8_weightOf_1 rfl (by decide) rfl ?_
  refine r_iconst C (nI 0) dX8_weightOf_2 (by decide) ?_
  refine r_istore_n C [(3, .int (nI 0)), (2, .int (nI 0)), (0, .ref (ad 135)), (1, .int x)] dX8_weightOf_3 rfl (by decide) rfl ?_
  have Lp : ∀ (f k : Nat), n + 1 ≤ k + f → k ≤ n → VV l D cs ad 4 κ 0 M 4 [(3, .int (nI k)), (2, .int (sI (fun v => if bt x v = true then M.1 136 (2 + v) else nI 0) k)), (0, .ref (ad 135)), (1, .int x)] [] := by
    intro f
    induction f with
    | zero => intro k hk1 hk2; exact absurd hk1 (by omega)
    | succ f ih =>
      intro k hk1 hk2
      refine r_iload_n C dX8_weightOf_4 rfl 0 rfl ?_
      refine r_aload_n C dX8_weightOf_5 rfl 2 rfl ?_
      refine r_get C (Cn := RX8) (T := TX8) (N := 18) (id := 135) (by decide) inw_X8 rfl rfl 0 (by decide) rfl fl_X8_7 rfl dX8_weightOf_6 ?_
      refine r_iconst C (nI 0) dX8_weightOf_9 (by decide) ?_
      refine r_iald C (id := 136) (n := 55) (a := 0) (by decide) rfl (by decide) (by decide) dX8_weightOf_10 ?_
      refine r_topi hn ?_
      refine r_icmpN_ge C 40 dX8_weightOf_11 (by decide) (by omega) (by omega) (fun h11 => ?_) (fun h11 => ?_)
      ·
        have hk9 : n = k := by omega
        subst hk9
        refine r_iload_n C dX8_weightOf_40 rfl 1 rfl ?_
        exact E 0 _ _ _ _ (Nat.le_of_ble_eq_true rfl) dX8_weightOf_41 (⟨rfl, rfl⟩)
      ·
        refine r_iload_n C dX8_weightOf_14 rfl 1 rfl ?_
        refine r_iload_n C dX8_weightOf_15 rfl 3 rfl ?_
        refine r_iload_n C dX8_weightOf_16 rfl 0 rfl ?_
        refine r_pcallS_i (nA := 2) C (Nat.le_of_ble_eq_true rfl) [.int x, .int (nI k)] (c_X8_has l D cs ad M x k ) (tt_S ml_X8_52 st_X8_has in_X8 co_X8_has) ⟨rfl, rfl⟩ ⟨rfl, by decide, by decide, by decide⟩ ⟨Nat.le_of_ble_eq_true rfl, Nat.le_of_ble_eq_true rfl⟩ rfl rfl (Nat.le_of_ble_eq_true rfl) dX8_weightOf_17 ?_
        refine r_ifB_eq C 31 dX8_weightOf_20 (by decide) (fun h20 => ?_) (fun h20 => ?_)
        ·
          refine r_iconst C (nI 0) dX8_weightOf_31 (by decide) ?_
          refine r_topi (w := (if bt x k = true then M.1 136 (2 + k) else nI 0)) (by simp [h11, h20]) ?_
          refine r_iadd C dX8_weightOf_32 ?_
          refine r_istore_n C [(2, .int ((sI (fun v => if bt x v = true then M.1 136 (2 + v) else nI 0) k) + (if bt x k = true then M.1 136 (2 + k) else nI 0))), (3, .int (nI k)), (0, .ref (ad 135)), (1, .int x)] dX8_weightOf_33 rfl (by decide) rfl ?_
          refine r_iinc C (nI (k + 1)) [(3, .int (nI (k + 1))), (2, .int ((sI (fun v => if bt x v = true then M.1 136 (2 + v) else nI 0) k) + (if bt x k = true then M.1 136 (2 + k) else nI 0))), (0, .ref (ad 135)), (1, .int x)] dX8_weightOf_34 (j := 1) rfl (inc_n k 1) (by decide) rfl ?_
          refine r_goto C 4 dX8_weightOf_37 (by decide) ?_
          refine r_lv (lv2 := [(3, .int (nI (k + 1))), (2, .int (sI (fun v => if bt x v = true then M.1 136 (2 + v) else nI 0) (k + 1))), (0, .ref (ad 135)), (1, .int x)]) [0, 1, 2, 3] rfl ?_
          exact ih (k + 1) (by omega) (by omega)
        ·
          refine r_aload_n C dX8_weightOf_23 rfl 2 rfl ?_
          refine r_iload_n C dX8_weightOf_24 rfl 0 rfl ?_
          refine r_pcallV_i (nA := 1) C (Nat.le_of_ble_eq_true rfl) [.int (nI k)] (c_X8_weight l D cs ad M k (by omega)) (tt_V ml_X8_70 im_X8_weight se_X8_weight in_X8 co_X8_weight) ⟨rfl, rfl⟩ ⟨rfl, by decide, by decide, by decide⟩ ⟨Nat.le_of_ble_eq_true rfl, Nat.le_of_ble_eq_true rfl⟩ (by decide) rfl rfl rfl rfl rfl (Nat.le_of_ble_eq_true rfl) dX8_weightOf_25 ?_
          refine r_goto C 32 dX8_weightOf_28 (by decide) ?_
          refine r_topi (w := (if bt x k = true then M.1 136 (2 + k) else nI 0)) (by simp [h11, h20]) ?_
          refine r_iadd C dX8_weightOf_32 ?_
          refine r_istore_n C [(2, .int ((sI (fun v => if bt x v = true then M.1 136 (2 + v) else nI 0) k) + (if bt x k = true then M.1 136 (2 + k) else nI 0))), (3, .int (nI k)), (0, .ref (ad 135)), (1, .int x)] dX8_weightOf_33 rfl (by decide) rfl ?_
          refine r_iinc C (nI (k + 1)) [(3, .int (nI (k + 1))), (2, .int ((sI (fun v => if bt x v = true then M.1 136 (2 + v) else nI 0) k) + (if bt x k = true then M.1 136 (2 + k) else nI 0))), (0, .ref (ad 135)), (1, .int x)] dX8_weightOf_34 (j := 1) rfl (inc_n k 1) (by decide) rfl ?_
          refine r_goto C 4 dX8_weightOf_37 (by decide) ?_
          refine r_lv (lv2 := [(3, .int (nI (k + 1))), (2, .int (sI (fun v => if bt x v = true then M.1 136 (2 + v) else nI 0) (k + 1))), (0, .ref (ad 135)), (1, .int x)]) [0, 1, 2, 3] rfl ?_
          exact ih (k + 1) (by omega) (by omega)
  refine r_lv (lv2 := [(3, .int (nI 0)), (2, .int (sI (fun v => if bt x v = true then M.1 136 (2 + v) else nI 0) 0)), (0, .ref (ad 135)), (1, .int x)]) [0, 1, 2, 3] rfl ?_
  exact Lp (n + 1) 0 (by omega) (by omega)
set_option maxRecDepth 100000 in
set_option maxHeartbeats 4000000 in
theorem c_X8_heaviest (l : Launch) (D : va_G) (cs : Nat → ClassId) (ad : Nat → Nat) (M : Mm) (w : Int32) (n : Nat) (hn : M.1 136 0 = nI n) (hn8 : n ≤ 8) : ∀ sz : Nat, Met l yX8_heaviest (.code yX8_heaviest cX8_heaviest 5 (some .int) :: TT) { frames := 2, cells := 0, slots := 0, locals := 44 } (va_Pc [.ref (ad 135), .int w] (fun U9 => U9.heap.size = sz ∧ wB D cs ad (fA ad sz) M U9)) (va_Qi (fun r M2 => r = hvz (M.1 136) n w ∧ M2 = M) (wB D cs ad (fA ad sz)) (fA ad sz)) 0 0 (fA ad sz) := by
  have h2n := p2_le hn8
  have h2p := Nat.two_pow_pos n
  refine st_I (by decide) (Nat.le_of_ble_eq_true rfl) (fun κ C E => ?_)
  refine r_lv (lv2 := [(0, .ref (ad 135)), (1, .int w)]) [0, 1] rfl ?_
  refine r_iconst C ((-1)) dX8_heaviest_0 (by decide) ?_
  refine r_istore_n C [(2, .int (-1)), (0, .ref (ad 135)), (1, .int w)] dX8_heaviest_1 rfl (by decide) rfl ?_
  refine r_iconst C (nI 0) dX8_heaviest_2 (by decide) ?_
  refine r_istore_n C [(3, .int (nI 0)), (2, .int (-1)), (0, .ref (ad 135)), (1, .int w)] dX8_heaviest_3 rfl (by decide) rfl ?_
  have Lp : ∀ (f k : Nat), 2 ^ n + 1 ≤ k + f → k ≤ 2 ^ n → VV l D cs ad 5 κ 0 M 4 [(3, .int (nI k)), (2, .int (hvS (M.1 136) n w k)), (0, .ref (ad 135)), (1, .int w)] [] := by
    intro f
    induction f with
    | zero => intro k hk1 hk2; exact absurd hk1 (by omega)
    | succ f ih =>
      intro k hk1 hk2
      refine r_iload_n C dX8_heaviest_4 rfl 0 rfl ?_
      refine r_iconst C (nI 1) dX8_heaviest_5 (by decide) ?_
      refine r_aload_n C dX8_heaviest_6 rfl 2 rfl ?_
      refine r_get C (Cn := RX8) (T := TX8) (N := 18) (id := 135) (by decide) inw_X8 rfl rfl 0 (by decide) rfl fl_X8_7 rfl dX8_heaviest_7 ?_
      refine r_iconst C (nI 0) dX8_heaviest_10 (by decide) ?_
      refine r_iald C (id := 136) (n := 55) (a := 0) (by decide) rfl (by decide) (by decide) dX8_heaviest_11 ?_
      refine r_topi hn ?_
      refine r_ishl C dX8_heaviest_12 ?_
      refine r_topi (w := s1 n) rfl ?_
      refine r_topi (w := nI (2 ^ n)) (shl1 (by omega)) ?_
      refine r_icmpN_ge C 74 dX8_heaviest_13 (by decide) (by omega) (by omega) (fun h13 => ?_) (fun h13 => ?_)
      ·
        have hk9 : 2 ^ n = k := by omega
        subst hk9
        refine r_iload_n C dX8_heaviest_74 rfl 1 rfl ?_
        exact E 0 _ _ _ _ (Nat.le_of_ble_eq_true rfl) dX8_heaviest_75 (⟨rfl, rfl⟩)
      ·
        refine r_iload_n C dX8_heaviest_16 rfl 3 rfl ?_
        refine r_iload_n C dX8_heaviest_17 rfl 0 rfl ?_
        refine r_iconst C ((-1)) dX8_heaviest_18 (by decide) ?_
        refine r_ixor C dX8_heaviest_19 ?_
        refine r_topi (w := ntI (nI k)) rfl ?_
        refine r_iand C dX8_heaviest_20 ?_
        refine r_if_ne C 36 dX8_heaviest_21 (by decide) (fun h21 => ?_) (fun h21 => ?_)
        ·
          refine r_iconst C (nI 0) dX8_heaviest_36 (by decide) ?_
          refine r_topi (w := bI (hvc (M.1 136) n w k)) (bI_off (by simp [hvc, h13, h21])) ?_
          refine r_istore C [(4, .int (bI (hvc (M.1 136) n w k))), (3, .int (nI k)), (2, .int (hvS (M.1 136) n w k)), (0, .ref (ad 135)), (1, .int w)] dX8_heaviest_37 (by decide) rfl ?_
          refine r_iload C dX8_heaviest_39 0 rfl ?_
          refine r_ifB_eq C 66 dX8_heaviest_41 (by decide) (fun h41 => ?_) (fun h41 => ?_)
          ·
            refine r_iload_n C dX8_heaviest_66 rfl 2 rfl ?_
            refine r_topi (w := (hvS (M.1 136) n w (k + 1))) (by simp [hvS, h13, h21, h41]) ?_
            refine r_istore_n C [(2, .int (hvS (M.1 136) n w (k + 1))), (4, .int (bI (hvc (M.1 136) n w k))), (3, .int (nI k)), (0, .ref (ad 135)), (1, .int w)] dX8_heaviest_67 rfl (by decide) rfl ?_
            refine r_iinc C (nI (k + 1)) [(3, .int (nI (k + 1))), (2, .int (hvS (M.1 136) n w (k + 1))), (4, .int (bI (hvc (M.1 136) n w k))), (0, .ref (ad 135)), (1, .int w)] dX8_heaviest_68 (j := 2) rfl (inc_n k 1) (by decide) rfl ?_
            refine r_goto C 4 dX8_heaviest_71 (by decide) ?_
            refine r_lv (lv2 := [(3, .int (nI (k + 1))), (2, .int (hvS (M.1 136) n w (k + 1))), (0, .ref (ad 135)), (1, .int w)]) [0, 1, 3, 4] rfl ?_
            exact ih (k + 1) (by omega) (by omega)
          ·
            refine r_iload_n C dX8_heaviest_44 rfl 2 rfl ?_
            refine r_iconst C ((-1)) dX8_heaviest_45 (by decide) ?_
            refine r_icmp_eq C 62 dX8_heaviest_46 (by decide) (fun h46 => ?_) (fun h46 => ?_)
            ·
              refine r_iload_n C dX8_heaviest_62 rfl 1 rfl ?_
              refine r_goto C 67 dX8_heaviest_63 (by decide) ?_
              refine r_topi (w := (hvS (M.1 136) n w (k + 1))) (by simp [hvS, h13, h21, h41, h46]) ?_
              refine r_istore_n C [(2, .int (hvS (M.1 136) n w (k + 1))), (4, .int (bI (hvc (M.1 136) n w k))), (3, .int (nI k)), (0, .ref (ad 135)), (1, .int w)] dX8_heaviest_67 rfl (by decide) rfl ?_
              refine r_iinc C (nI (k + 1)) [(3, .int (nI (k + 1))), (2, .int (hvS (M.1 136) n w (k + 1))), (4, .int (bI (hvc (M.1 136) n w k))), (0, .ref (ad 135)), (1, .int w)] dX8_heaviest_68 (j := 2) rfl (inc_n k 1) (by decide) rfl ?_
              refine r_goto C 4 dX8_heaviest_71 (by decide) ?_
              refine r_lv (lv2 := [(3, .int (nI (k + 1))), (2, .int (hvS (M.1 136) n w (k + 1))), (0, .ref (ad 135)), (1, .int w)]) [0, 1, 3, 4] rfl ?_
              exact ih (k + 1) (by omega) (by omega)
            ·
              refine r_aload_n C dX8_heaviest_49 rfl 3 rfl ?_
              refine r_iload_n C dX8_heaviest_50 rfl 1 rfl ?_
              refine r_pcallV_i (nA := 1) C (Nat.le_of_ble_eq_true rfl) [.int (nI k)] (c_X8_weightOf l D cs ad M (nI k) n hn hn8) (tt_V ml_X8_101 im_X8_weightOf se_X8_weightOf in_X8 co_X8_weightOf) ⟨rfl, rfl⟩ ⟨rfl, by decide, by decide, by decide⟩ ⟨Nat.le_of_ble_eq_true rfl, Nat.le_of_ble_eq_true rfl⟩ (by decide) rfl rfl rfl rfl rfl (Nat.le_of_ble_eq_true rfl) dX8_heaviest_51 ?_
              refine r_aload_n C dX8_heaviest_54 rfl 3 rfl ?_
              refine r_iload_n C dX8_heaviest_55 rfl 2 rfl ?_
              refine r_pcallV_i (nA := 1) C (Nat.le_of_ble_eq_true rfl) [.int (hvS (M.1 136) n w k)] (c_X8_weightOf l D cs ad M (hvS (M.1 136) n w k) n hn hn8) (tt_V ml_X8_101 im_X8_weightOf se_X8_weightOf in_X8 co_X8_weightOf) ⟨rfl, rfl⟩ ⟨rfl, by decide, by decide, by decide⟩ ⟨Nat.le_of_ble_eq_true rfl, Nat.le_of_ble_eq_true rfl⟩ (by decide) rfl rfl rfl rfl rfl (Nat.le_of_ble_eq_true rfl) dX8_heaviest_56 ?_
              refine r_icmp_le C 66 dX8_heaviest_59 (by decide) (fun h59 => ?_) (fun h59 => ?_)
              ·
                refine r_iload_n C dX8_heaviest_66 rfl 2 rfl ?_
                refine r_topi (w := (hvS (M.1 136) n w (k + 1))) (by simp [hvS, h13, h21, h41, h46, h59]) ?_
                refine r_istore_n C [(2, .int (hvS (M.1 136) n w (k + 1))), (4, .int (bI (hvc (M.1 136) n w k))), (3, .int (nI k)), (0, .ref (ad 135)), (1, .int w)] dX8_heaviest_67 rfl (by decide) rfl ?_
                refine r_iinc C (nI (k + 1)) [(3, .int (nI (k + 1))), (2, .int (hvS (M.1 136) n w (k + 1))), (4, .int (bI (hvc (M.1 136) n w k))), (0, .ref (ad 135)), (1, .int w)] dX8_heaviest_68 (j := 2) rfl (inc_n k 1) (by decide) rfl ?_
                refine r_goto C 4 dX8_heaviest_71 (by decide) ?_
                refine r_lv (lv2 := [(3, .int (nI (k + 1))), (2, .int (hvS (M.1 136) n w (k + 1))), (0, .ref (ad 135)), (1, .int w)]) [0, 1, 3, 4] rfl ?_
                exact ih (k + 1) (by omega) (by omega)
              ·
                refine r_iload_n C dX8_heaviest_62 rfl 1 rfl ?_
                refine r_goto C 67 dX8_heaviest_63 (by decide) ?_
                refine r_topi (w := (hvS (M.1 136) n w (k + 1))) (by simp [hvS, h13, h21, h41, h46, h59]) ?_
                refine r_istore_n C [(2, .int (hvS (M.1 136) n w (k + 1))), (4, .int (bI (hvc (M.1 136) n w k))), (3, .int (nI k)), (0, .ref (ad 135)), (1, .int w)] dX8_heaviest_67 rfl (by decide) rfl ?_
                refine r_iinc C (nI (k + 1)) [(3, .int (nI (k + 1))), (2, .int (hvS (M.1 136) n w (k + 1))), (4, .int (bI (hvc (M.1 136) n w k))), (0, .ref (ad 135)), (1, .int w)] dX8_heaviest_68 (j := 2) rfl (inc_n k 1) (by decide) rfl ?_
                refine r_goto C 4 dX8_heaviest_71 (by decide) ?_
                refine r_lv (lv2 := [(3, .int (nI (k + 1))), (2, .int (hvS (M.1 136) n w (k + 1))), (0, .ref (ad 135)), (1, .int w)]) [0, 1, 3, 4] rfl ?_
                exact ih (k + 1) (by omega) (by omega)
        ·
          refine r_aload_n C dX8_heaviest_24 rfl 2 rfl ?_
          refine r_iload_n C dX8_heaviest_25 rfl 0 rfl ?_
          refine r_pcallV_i (nA := 1) C (Nat.le_of_ble_eq_true rfl) [.int (nI k)] (c_X8_isClique l D cs ad M (nI k) n hn hn8) (tt_V ml_X8_97 im_X8_isClique se_X8_isClique in_X8 co_X8_isClique) ⟨rfl, rfl⟩ ⟨rfl, by decide, by decide, by decide⟩ ⟨Nat.le_of_ble_eq_true rfl, Nat.le_of_ble_eq_true rfl⟩ (by decide) rfl rfl rfl rfl rfl (Nat.le_of_ble_eq_true rfl) dX8_heaviest_26 ?_
          refine r_ifB_eq C 36 dX8_heaviest_29 (by decide) (fun h29 => ?_) (fun h29 => ?_)
          ·
            refine r_iconst C (nI 0) dX8_heaviest_36 (by decide) ?_
            refine r_topi (w := bI (hvc (M.1 136) n w k)) (bI_off (by simp [hvc, h13, h21, h29])) ?_
            refine r_istore C [(4, .int (bI (hvc (M.1 136) n w k))), (3, .int (nI k)), (2, .int (hvS (M.1 136) n w k)), (0, .ref (ad 135)), (1, .int w)] dX8_heaviest_37 (by decide) rfl ?_
            refine r_iload C dX8_heaviest_39 0 rfl ?_
            refine r_ifB_eq C 66 dX8_heaviest_41 (by decide) (fun h41 => ?_) (fun h41 => ?_)
            ·
              refine r_iload_n C dX8_heaviest_66 rfl 2 rfl ?_
              refine r_topi (w := (hvS (M.1 136) n w (k + 1))) (by simp [hvS, h13, h21, h29, h41]) ?_
              refine r_istore_n C [(2, .int (hvS (M.1 136) n w (k + 1))), (4, .int (bI (hvc (M.1 136) n w k))), (3, .int (nI k)), (0, .ref (ad 135)), (1, .int w)] dX8_heaviest_67 rfl (by decide) rfl ?_
              refine r_iinc C (nI (k + 1)) [(3, .int (nI (k + 1))), (2, .int (hvS (M.1 136) n w (k + 1))), (4, .int (bI (hvc (M.1 136) n w k))), (0, .ref (ad 135)), (1, .int w)] dX8_heaviest_68 (j := 2) rfl (inc_n k 1) (by decide) rfl ?_
              refine r_goto C 4 dX8_heaviest_71 (by decide) ?_
              refine r_lv (lv2 := [(3, .int (nI (k + 1))), (2, .int (hvS (M.1 136) n w (k + 1))), (0, .ref (ad 135)), (1, .int w)]) [0, 1, 3, 4] rfl ?_
              exact ih (k + 1) (by omega) (by omega)
            ·
              refine r_iload_n C dX8_heaviest_44 rfl 2 rfl ?_
              refine r_iconst C ((-1)) dX8_heaviest_45 (by decide) ?_
              refine r_icmp_eq C 62 dX8_heaviest_46 (by decide) (fun h46 => ?_) (fun h46 => ?_)
              ·
                refine r_iload_n C dX8_heaviest_62 rfl 1 rfl ?_
                refine r_goto C 67 dX8_heaviest_63 (by decide) ?_
                refine r_topi (w := (hvS (M.1 136) n w (k + 1))) (by simp [hvS, h13, h21, h29, h41, h46]) ?_
                refine r_istore_n C [(2, .int (hvS (M.1 136) n w (k + 1))), (4, .int (bI (hvc (M.1 136) n w k))), (3, .int (nI k)), (0, .ref (ad 135)), (1, .int w)] dX8_heaviest_67 rfl (by decide) rfl ?_
                refine r_iinc C (nI (k + 1)) [(3, .int (nI (k + 1))), (2, .int (hvS (M.1 136) n w (k + 1))), (4, .int (bI (hvc (M.1 136) n w k))), (0, .ref (ad 135)), (1, .int w)] dX8_heaviest_68 (j := 2) rfl (inc_n k 1) (by decide) rfl ?_
                refine r_goto C 4 dX8_heaviest_71 (by decide) ?_
                refine r_lv (lv2 := [(3, .int (nI (k + 1))), (2, .int (hvS (M.1 136) n w (k + 1))), (0, .ref (ad 135)), (1, .int w)]) [0, 1, 3, 4] rfl ?_
                exact ih (k + 1) (by omega) (by omega)
              ·
                refine r_aload_n C dX8_heaviest_49 rfl 3 rfl ?_
                refine r_iload_n C dX8_heaviest_50 rfl 1 rfl ?_
                refine r_pcallV_i (nA := 1) C (Nat.le_of_ble_eq_true rfl) [.int (nI k)] (c_X8_weightOf l D cs ad M (nI k) n hn hn8) (tt_V ml_X8_101 im_X8_weightOf se_X8_weightOf in_X8 co_X8_weightOf) ⟨rfl, rfl⟩ ⟨rfl, by decide, by decide, by decide⟩ ⟨Nat.le_of_ble_eq_true rfl, Nat.le_of_ble_eq_true rfl⟩ (by decide) rfl rfl rfl rfl rfl (Nat.le_of_ble_eq_true rfl) dX8_heaviest_51 ?_
                refine r_aload_n C dX8_heaviest_54 rfl 3 rfl ?_
                refine r_iload_n C dX8_heaviest_55 rfl 2 rfl ?_
                refine r_pcallV_i (nA := 1) C (Nat.le_of_ble_eq_true rfl) [.int (hvS (M.1 136) n w k)] (c_X8_weightOf l D cs ad M (hvS (M.1 136) n w k) n hn hn8) (tt_V ml_X8_101 im_X8_weightOf se_X8_weightOf in_X8 co_X8_weightOf) ⟨rfl, rfl⟩ ⟨rfl, by decide, by decide, by decide⟩ ⟨Nat.le_of_ble_eq_true rfl, Nat.le_of_ble_eq_true rfl⟩ (by decide) rfl rfl rfl rfl rfl (Nat.le_of_ble_eq_true rfl) dX8_heaviest_56 ?_
                refine r_icmp_le C 66 dX8_heaviest_59 (by decide) (fun h59 => ?_) (fun h59 => ?_)
                ·
                  refine r_iload_n C dX8_heaviest_66 rfl 2 rfl ?_
                  refine r_topi (w := (hvS (M.1 136) n w (k + 1))) (by simp [hvS, h13, h21, h29, h41, h46, h59]) ?_
                  refine r_istore_n C [(2, .int (hvS (M.1 136) n w (k + 1))), (4, .int (bI (hvc (M.1 136) n w k))), (3, .int (nI k)), (0, .ref (ad 135)), (1, .int w)] dX8_heaviest_67 rfl (by decide) rfl ?_
                  refine r_iinc C (nI (k + 1)) [(3, .int (nI (k + 1))), (2, .int (hvS (M.1 136) n w (k + 1))), (4, .int (bI (hvc (M.1 136) n w k))), (0, .ref (ad 135)), (1, .int w)] dX8_heaviest_68 (j := 2) rfl (inc_n k 1) (by decide) rfl ?_
                  refine r_goto C 4 dX8_heaviest_71 (by decide) ?_
                  refine r_lv (lv2 := [(3, .int (nI (k + 1))), (2, .int (hvS (M.1 136) n w (k + 1))), (0, .ref (ad 135)), (1, .int w)]) [0, 1, 3, 4] rfl ?_
                  exact ih (k + 1) (by omega) (by omega)
                ·
                  refine r_iload_n C dX8_heaviest_62 rfl 1 rfl ?_
                  refine r_goto C 67 dX8_heaviest_63 (by decide) ?_
                  refine r_topi (w := (hvS (M.1 136) n w (k + 1))) (by simp [hvS, h13, h21, h29, h41, h46, h59]) ?_
                  refine r_istore_n C [(2, .int (hvS (M.1 136) n w (k + 1))), (4, .int (bI (hvc (M.1 136) n w k))), (3, .int (nI k)), (0, .ref (ad 135)), (1, .int w)] dX8_heaviest_67 rfl (by decide) rfl ?_
                  refine r_iinc C (nI (k + 1)) [(3, .int (nI (k + 1))), (2, .int (hvS (M.1 136) n w (k + 1))), (4, .int (bI (hvc (M.1 136) n w k))), (0, .ref (ad 135)), (1, .int w)] dX8_heaviest_68 (j := 2) rfl (inc_n k 1) (by decide) rfl ?_
                  refine r_goto C 4 dX8_heaviest_71 (by decide) ?_
                  refine r_lv (lv2 := [(3, .int (nI (k + 1))), (2, .int (hvS (M.1 136) n w (k + 1))), (0, .ref (ad 135)), (1, .int w)]) [0, 1, 3, 4] rfl ?_
                  exact ih (k + 1) (by omega) (by omega)
          ·
            refine r_iconst C (nI 1) dX8_heaviest_32 (by decide) ?_
            refine r_goto C 37 dX8_heaviest_33 (by decide) ?_
            refine r_topi (w := bI (hvc (M.1 136) n w k)) (bI_on (by simp [hvc, h13, h21, h29])) ?_
            refine r_istore C [(4, .int (bI (hvc (M.1 136) n w k))), (3, .int (nI k)), (2, .int (hvS (M.1 136) n w k)), (0, .ref (ad 135)), (1, .int w)] dX8_heaviest_37 (by decide) rfl ?_
            refine r_iload C dX8_heaviest_39 0 rfl ?_
            refine r_ifB_eq C 66 dX8_heaviest_41 (by decide) (fun h41 => ?_) (fun h41 => ?_)
            ·
              refine r_iload_n C dX8_heaviest_66 rfl 2 rfl ?_
              refine r_topi (w := (hvS (M.1 136) n w (k + 1))) (by simp [hvS, h13, h21, h29, h41]) ?_
              refine r_istore_n C [(2, .int (hvS (M.1 136) n w (k + 1))), (4, .int (bI (hvc (M.1 136) n w k))), (3, .int (nI k)), (0, .ref (ad 135)), (1, .int w)] dX8_heaviest_67 rfl (by decide) rfl ?_
              refine r_iinc C (nI (k + 1)) [(3, .int (nI (k + 1))), (2, .int (hvS (M.1 136) n w (k + 1))), (4, .int (bI (hvc (M.1 136) n w k))), (0, .ref (ad 135)), (1, .int w)] dX8_heaviest_68 (j := 2) rfl (inc_n k 1) (by decide) rfl ?_
              refine r_goto C 4 dX8_heaviest_71 (by decide) ?_
              refine r_lv (lv2 := [(3, .int (nI (k + 1))), (2, .int (hvS (M.1 136) n w (k + 1))), (0, .ref (ad 135)), (1, .int w)]) [0, 1, 3, 4] rfl ?_
              exact ih (k + 1) (by omega) (by omega)
            ·
              refine r_iload_n C dX8_heaviest_44 rfl 2 rfl ?_
              refine r_iconst C ((-1)) dX8_heaviest_45 (by decide) ?_
              refine r_icmp_eq C 62 dX8_heaviest_46 (by decide) (fun h46 => ?_) (fun h46 => ?_)
              ·
                refine r_iload_n C dX8_heaviest_62 rfl 1 rfl ?_
                refine r_goto C 67 dX8_heaviest_63 (by decide) ?_
                refine r_topi (w := (hvS (M.1 136) n w (k + 1))) (by simp [hvS, h13, h21, h29, h41, h46]) ?_
                refine r_istore_n C [(2, .int (hvS (M.1 136) n w (k + 1))), (4, .int (bI (hvc (M.1 136) n w k))), (3, .int (nI k)), (0, .ref (ad 135)), (1, .int w)] dX8_heaviest_67 rfl (by decide) rfl ?_
                refine r_iinc C (nI (k + 1)) [(3, .int (nI (k + 1))), (2, .int (hvS (M.1 136) n w (k + 1))), (4, .int (bI (hvc (M.1 136) n w k))), (0, .ref (ad 135)), (1, .int w)] dX8_heaviest_68 (j := 2) rfl (inc_n k 1) (by decide) rfl ?_
                refine r_goto C 4 dX8_heaviest_71 (by decide) ?_
                refine r_lv (lv2 := [(3, .int (nI (k + 1))), (2, .int (hvS (M.1 136) n w (k + 1))), (0, .ref (ad 135)), (1, .int w)]) [0, 1, 3, 4] rfl ?_
                exact ih (k + 1) (by omega) (by omega)
              ·
                refine r_aload_n C dX8_heaviest_49 rfl 3 rfl ?_
                refine r_iload_n C dX8_heaviest_50 rfl 1 rfl ?_
                refine r_pcallV_i (nA := 1) C (Nat.le_of_ble_eq_true rfl) [.int (nI k)] (c_X8_weightOf l D cs ad M (nI k) n hn hn8) (tt_V ml_X8_101 im_X8_weightOf se_X8_weightOf in_X8 co_X8_weightOf) ⟨rfl, rfl⟩ ⟨rfl, by decide, by decide, by decide⟩ ⟨Nat.le_of_ble_eq_true rfl, Nat.le_of_ble_eq_true rfl⟩ (by decide) rfl rfl rfl rfl rfl (Nat.le_of_ble_eq_true rfl) dX8_heaviest_51 ?_
                refine r_aload_n C dX8_heaviest_54 rfl 3 rfl ?_
                refine r_iload_n C dX8_heaviest_55 rfl 2 rfl ?_
                refine r_pcallV_i (nA := 1) C (Nat.le_of_ble_eq_true rfl) [.int (hvS (M.1 136) n w k)] (c_X8_weightOf l D cs ad M (hvS (M.1 136) n w k) n hn hn8) (tt_V ml_X8_101 im_X8_weightOf se_X8_weightOf in_X8 co_X8_weightOf) ⟨rfl, rfl⟩ ⟨rfl, by decide, by decide, by decide⟩ ⟨Nat.le_of_ble_eq_true rfl, Nat.le_of_ble_eq_true rfl⟩ (by decide) rfl rfl rfl rfl rfl (Nat.le_of_ble_eq_true rfl) dX8_heaviest_56 ?_
                refine r_icmp_le C 66 dX8_heaviest_59 (by decide) (fun h59 => ?_) (fun h59 => ?_)
                ·
                  refine r_iload_n C dX8_heaviest_66 rfl 2 rfl ?_
                  refine r_topi (w := (hvS (M.1 136) n w (k + 1))) (by simp [hvS, h13, h21, h29, h41, h46, h59]) ?_
                  refine r_istore_n C [(2, .int (hvS (M.1 136) n w (k + 1))), (4, .int (bI (hvc (M.1 136) n w k))), (3, .int (nI k)), (0, .ref (ad 135)), (1, .int w)] dX8_heaviest_67 rfl (by decide) rfl ?_
                  refine r_iinc C (nI (k + 1)) [(3, .int (nI (k + 1))), (2, .int (hvS (M.1 136) n w (k + 1))), (4, .int (bI (hvc (M.1 136) n w k))), (0, .ref (ad 135)), (1, .int w)] dX8_heaviest_68 (j := 2) rfl (inc_n k 1) (by decide) rfl ?_
                  refine r_goto C 4 dX8_heaviest_71 (by decide) ?_
                  refine r_lv (lv2 := [(3, .int (nI (k + 1))), (2, .int (hvS (M.1 136) n w (k + 1))), (0, .ref (ad 135)), (1, .int w)]) [0, 1, 3, 4] rfl ?_
                  exact ih (k + 1) (by omega) (by omega)
                ·
                  refine r_iload_n C dX8_heaviest_62 rfl 1 rfl ?_
                  refine r_goto C 67 dX8_heaviest_63 (by decide) ?_
                  refine r_topi (w := (hvS (M.1 136) n w (k + 1))) (by simp [hvS, h13, h21, h29, h41, h46, h59]) ?_
                  refine r_istore_n C [(2, .int (hvS (M.1 136) n w (k + 1))), (4, .int (bI (hvc (M.1 136) n w k))), (3, .int (nI k)), (0, .ref (ad 135)), (1, .int w)] dX8_heaviest_67 rfl (by decide) rfl ?_
                  refine r_iinc C (nI (k + 1)) [(3, .int (nI (k + 1))), (2, .int (hvS (M.1 136) n w (k + 1))), (4, .int (bI (hvc (M.1 136) n w k))), (0, .ref (ad 135)), (1, .int w)] dX8_heaviest_68 (j := 2) rfl (inc_n k 1) (by decide) rfl ?_
                  refine r_goto C 4 dX8_heaviest_71 (by decide) ?_
                  refine r_lv (lv2 := [(3, .int (nI (k + 1))), (2, .int (hvS (M.1 136) n w (k + 1))), (0, .ref (ad 135)), (1, .int w)]) [0, 1, 3, 4] rfl ?_
                  exact ih (k + 1) (by omega) (by omega)
  refine r_lv (lv2 := [(3, .int (nI 0)), (2, .int (hvS (M.1 136) n w 0)), (0, .ref (ad 135)), (1, .int w)]) [0, 1, 2, 3] rfl ?_
  exact Lp ((2 ^ n) + 1) 0 (by omega) (by omega)
set_option maxRecDepth 100000 in
set_option maxHeartbeats 4000000 in
theorem c_X8_mostVertices (l : Launch) (D : va_G) (cs : Nat → ClassId) (ad : Nat → Nat) (M : Mm) (n : Nat) (hn : M.1 136 0 = nI n) (hn8 : n ≤ 8) : ∀ sz : Nat, Met l yX8_mostVertices (.code yX8_mostVertices cX8_mostVertices 3 (some .int) :: TT) { frames := 2, cells := 0, slots := 0, locals := 44 } (va_Pc [.ref (ad 135)] (fun U9 => U9.heap.size = sz ∧ wB D cs ad (fA ad sz) M U9)) (va_Qi (fun r M2 => r = mvS (M.1 136) n (2 ^ n) ∧ M2 = M) (wB D cs ad (fA ad sz)) (fA ad sz)) 0 0 (fA ad sz) := by
  have h2n := p2_le hn8
  have h2p := Nat.two_pow_pos n
  refine st_I (by decide) (Nat.le_of_ble_eq_true rfl) (fun κ C E => ?_)
  refine r_lv (lv2 := [(0, .ref (ad 135))]) [0] rfl ?_
  refine r_iconst C (nI 0) dX8_mostVertices_0 (by decide) ?_
  refine r_istore_n C [(1, .int (nI 0)), (0, .ref (ad 135))] dX8_mostVertices_1 rfl (by decide) rfl ?_
  refine r_iconst C (nI 0) dX8_mostVertices_2 (by decide) ?_
  refine r_istore_n C [(2, .int (nI 0)), (1, .int (nI 0)), (0, .ref (ad 135))] dX8_mostVertices_3 rfl (by decide) rfl ?_
  have Lp : ∀ (f k : Nat), 2 ^ n + 1 ≤ k + f → k ≤ 2 ^ n → VV l D cs ad 3 κ 0 M 4 [(2, .int (nI k)), (1, .int (mvS (M.1 136) n k)), (0, .ref (ad 135))] [] := by
    intro f
    induction f with
    | zero => intro k hk1 hk2; exact absurd hk1 (by omega)
    | succ f ih =>
      intro k hk1 hk2
      refine r_iload_n C dX8_mostVertices_4 rfl 0 rfl ?_
      refine r_iconst C (nI 1) dX8_mostVertices_5 (by decide) ?_
      refine r_aload_n C dX8_mostVertices_6 rfl 2 rfl ?_
      refine r_get C (Cn := RX8) (T := TX8) (N := 18) (id := 135) (by decide) inw_X8 rfl rfl 0 (by decide) rfl fl_X8_7 rfl dX8_mostVertices_7 ?_
      refine r_iconst C (nI 0) dX8_mostVertices_10 (by decide) ?_
      refine r_iald C (id := 136) (n := 55) (a := 0) (by decide) rfl (by decide) (by decide) dX8_mostVertices_11 ?_
      refine r_topi hn ?_
      refine r_ishl C dX8_mostVertices_12 ?_
      refine r_topi (w := s1 n) rfl ?_
      refine r_topi (w := nI (2 ^ n)) (shl1 (by omega)) ?_
      refine r_icmpN_ge C 47 dX8_mostVertices_13 (by decide) (by omega) (by omega) (fun h13 => ?_) (fun h13 => ?_)
      ·
        have hk9 : 2 ^ n = k := by omega
        subst hk9
        refine r_iload_n C dX8_mostVertices_47 rfl 1 rfl ?_
        exact E 0 _ _ _ _ (Nat.le_of_ble_eq_true rfl) dX8_mostVertices_48 (⟨rfl, rfl⟩)
      ·
        refine r_iload_n C dX8_mostVertices_16 rfl 0 rfl ?_
        refine r_pcallS_i (nA := 1) C (Nat.le_of_ble_eq_true rfl) [.int (nI k)] (c_X8_ones l D cs ad M (nI k) ) (tt_S ml_X8_64 st_X8_ones in_X8 co_X8_ones) ⟨rfl, rfl⟩ ⟨rfl, by decide, by decide, by decide⟩ ⟨Nat.le_of_ble_eq_true rfl, Nat.le_of_ble_eq_true rfl⟩ rfl rfl (Nat.le_of_ble_eq_true rfl) dX8_mostVertices_17 ?_
        refine r_iload_n C dX8_mostVertices_20 rfl 1 rfl ?_
        refine r_icmp_le C 39 dX8_mostVertices_21 (by decide) (fun h21 => ?_) (fun h21 => ?_)
        ·
          refine r_iload_n C dX8_mostVertices_39 rfl 1 rfl ?_
          refine r_topi (w := (mvS (M.1 136) n (k + 1))) (by simp [mvS, h13, h21]) ?_
          refine r_istore_n C [(1, .int (mvS (M.1 136) n (k + 1))), (2, .int (nI k)), (0, .ref (ad 135))] dX8_mostVertices_40 rfl (by decide) rfl ?_
          refine r_iinc C (nI (k + 1)) [(2, .int (nI (k + 1))), (1, .int (mvS (M.1 136) n (k + 1))), (0, .ref (ad 135))] dX8_mostVertices_41 (j := 1) rfl (inc_n k 1) (by decide) rfl ?_
          refine r_goto C 4 dX8_mostVertices_44 (by decide) ?_
          refine r_lv (lv2 := [(2, .int (nI (k + 1))), (1, .int (mvS (M.1 136) n (k + 1))), (0, .ref (ad 135))]) [0, 1, 2] rfl ?_
          exact ih (k + 1) (by omega) (by omega)
        ·
          refine r_aload_n C dX8_mostVertices_24 rfl 2 rfl ?_
          refine r_iload_n C dX8_mostVertices_25 rfl 0 rfl ?_
          refine r_pcallV_i (nA := 1) C (Nat.le_of_ble_eq_true rfl) [.int (nI k)] (c_X8_isClique l D cs ad M (nI k) n hn hn8) (tt_V ml_X8_97 im_X8_isClique se_X8_isClique in_X8 co_X8_isClique) ⟨rfl, rfl⟩ ⟨rfl, by decide, by decide, by decide⟩ ⟨Nat.le_of_ble_eq_true rfl, Nat.le_of_ble_eq_true rfl⟩ (by decide) rfl rfl rfl rfl rfl (Nat.le_of_ble_eq_true rfl) dX8_mostVertices_26 ?_
          refine r_ifB_eq C 39 dX8_mostVertices_29 (by decide) (fun h29 => ?_) (fun h29 => ?_)
          ·
            refine r_iload_n C dX8_mostVertices_39 rfl 1 rfl ?_
            refine r_topi (w := (mvS (M.1 136) n (k + 1))) (by simp [mvS, h13, h21, h29]) ?_
            refine r_istore_n C [(1, .int (mvS (M.1 136) n (k + 1))), (2, .int (nI k)), (0, .ref (ad 135))] dX8_mostVertices_40 rfl (by decide) rfl ?_
            refine r_iinc C (nI (k + 1)) [(2, .int (nI (k + 1))), (1, .int (mvS (M.1 136) n (k + 1))), (0, .ref (ad 135))] dX8_mostVertices_41 (j := 1) rfl (inc_n k 1) (by decide) rfl ?_
            refine r_goto C 4 dX8_mostVertices_44 (by decide) ?_
            refine r_lv (lv2 := [(2, .int (nI (k + 1))), (1, .int (mvS (M.1 136) n (k + 1))), (0, .ref (ad 135))]) [0, 1, 2] rfl ?_
            exact ih (k + 1) (by omega) (by omega)
          ·
            refine r_iload_n C dX8_mostVertices_32 rfl 0 rfl ?_
            refine r_pcallS_i (nA := 1) C (Nat.le_of_ble_eq_true rfl) [.int (nI k)] (c_X8_ones l D cs ad M (nI k) ) (tt_S ml_X8_64 st_X8_ones in_X8 co_X8_ones) ⟨rfl, rfl⟩ ⟨rfl, by decide, by decide, by decide⟩ ⟨Nat.le_of_ble_eq_true rfl, Nat.le_of_ble_eq_true rfl⟩ rfl rfl (Nat.le_of_ble_eq_true rfl) dX8_mostVertices_33 ?_
            refine r_goto C 40 dX8_mostVertices_36 (by decide) ?_
            refine r_topi (w := (mvS (M.1 136) n (k + 1))) (by simp [mvS, h13, h21, h29]) ?_
            refine r_istore_n C [(1, .int (mvS (M.1 136) n (k + 1))), (2, .int (nI k)), (0, .ref (ad 135))] dX8_mostVertices_40 rfl (by decide) rfl ?_
            refine r_iinc C (nI (k + 1)) [(2, .int (nI (k + 1))), (1, .int (mvS (M.1 136) n (k + 1))), (0, .ref (ad 135))] dX8_mostVertices_41 (j := 1) rfl (inc_n k 1) (by decide) rfl ?_
            refine r_goto C 4 dX8_mostVertices_44 (by decide) ?_
            refine r_lv (lv2 := [(2, .int (nI (k + 1))), (1, .int (mvS (M.1 136) n (k + 1))), (0, .ref (ad 135))]) [0, 1, 2] rfl ?_
            exact ih (k + 1) (by omega) (by omega)
  refine r_lv (lv2 := [(2, .int (nI 0)), (1, .int (mvS (M.1 136) n 0)), (0, .ref (ad 135))]) [0, 1, 2] rfl ?_
  exact Lp ((2 ^ n) + 1) 0 (by omega) (by omega)
