/-! ===== the reference's colors (written by wip/whole/gen/model9.py) ===== -/
def csB (z c : Nat → Int32) (v : Nat) : Nat → Bool
  | 0 => true
  | k + 1 => csB z c v k && (!bt (z (10 + v)) k || !decide (c k = c v))
def okS (z c : Nat → Int32) (v a : Nat) : Nat → Bool
  | 0 => true
  | k + 1 => okS z c v a k && (!bt (z (10 + v)) k || !decide (c k = nI a))
theorem csB_ok {z c p : Nat → Int32} {v a : Nat} (hp : ∀ j, j < v → c j = p j) : ∀ {k : Nat}, k ≤ v → csB z (upd c v (nI a)) v k = okS z p v a k
  | 0, _ => rfl
  | k + 1, h => by
    unfold csB okS
    rw [csB_ok hp (by omega), upd_n _ _ (by omega : k ≠ v), upd_e, hp k (by omega)]
/-- the first a, a + 1, .. (r of them) of which g gives something -/
def fsm {α : Type} (g : Nat → Option α) : Nat → Nat → Option α
  | 0, _ => none
  | r + 1, a => match g a with
    | some x => some x
    | none => fsm g r (a + 1)
/-- the first coloring with K colors that goes on from the first v ones -/
def tryC (z : Nat → Int32) (K : Nat) : Nat → Nat → (Nat → Int32) → Option (Nat → Int32)
  | 0, _, c => some c
  | m + 1, v, c => fsm (fun a => if okS z c v a v = true then tryC z K m (v + 1) (upd c v (nI a)) else none) K 0
def cl0 : Nat → Int32 := fun _ => 0
def cfC (z : Nat → Int32) (n k : Nat) : Option (Nat → Int32) := tryC z (k + 1) n 0 cl0
def cnK (z : Nat → Int32) (n : Nat) : Nat := fi (fun k => (cfC z n k).isSome) n + 1
def crs (z : Nat → Int32) (n : Nat) : Nat → Int32 := (cfC z n (fi (fun k => (cfC z n k).isSome) n)).getD cl0
theorem fsm_s {α : Type} {g : Nat → Option α} {r a : Nat} {x : α} (h : g a = some x) : fsm g (r + 1) a = some x := by
  unfold fsm; rw [h]
theorem fsm_n {α : Type} {g : Nat → Option α} {r a : Nat} (h : g a = none) : fsm g (r + 1) a = fsm g r (a + 1) := by
  show (match g a with | some x => some x | none => fsm g r (a + 1)) = _
  rw [h]
theorem fi_yes {p : Nat → Bool} : ∀ {n : Nat}, fi p n < n → p (fi p n) = true
  | 0, h => absurd h (Nat.not_lt_zero _)
  | n + 1, h => by
    have hl := fi_le p n
    unfold fi at h ⊢
    by_cases q : fi p n < n
    · rw [if_pos q]; exact fi_yes q
    · rw [if_neg q] at h ⊢
      have e : fi p n = n := by omega
      by_cases w : p n = true
      · rw [if_pos w]; exact w
      · rw [if_neg w] at h; omega
theorem upd_v {c p : Nat → Int32} {v : Nat} {x : Int32} (hp : ∀ j, j < v → c j = p j) : ∀ j, j < v + 1 → upd c v x j = upd p v x j := fun j hj => by
  by_cases q : j = v
  · subst q; rw [upd_e, upd_e]
  · rw [upd_n _ _ q, upd_n _ _ q]; exact hp j (by omega)
theorem nm1_ne {n : Nat} (h : n ≤ 8) : ¬ nI 0 - nI 1 = nI n := by
  have : ∀ n : Fin 9, ¬ nI 0 - nI 1 = nI n.val := by decide +kernel
  exact this ⟨n, by omega⟩
theorem nIm1 (v : Nat) : nI v + Int32.ofInt (-1) = nI v - nI 1 := by
  have e : Int32.ofInt (-1) = -nI 1 := by decide
  rw [e, Int32.sub_eq_add_neg]
set_option maxRecDepth 100000 in
set_option maxHeartbeats 4000000 in
theorem c_X8_canStay (l : Launch) (D : va_G) (cs : Nat → ClassId) (ad : Nat → Nat) (M : Mm) (v : Nat) (hv : v < 8) : ∀ sz : Nat, Met l yX8_canStay (.code yX8_canStay cX8_canStay 4 (some .boolean) :: TT) { frames := 2, cells := 0, slots := 0, locals := 43 } (va_Pc [.ref (ad 135), .int (nI v)] (fun U9 => U9.heap.size = sz ∧ wB D cs ad (fA ad sz) M U9)) (va_Qi (fun r M2 => r = bI (csB (M.1 136) (M.1 141) v v) ∧ M2 = M) (wB D cs ad (fA ad sz)) (fA ad sz)) 0 0 (fA ad sz) := by
  refine st_Z (by decide) (Nat.le_of_ble_eq_true rfl) (fun κ C E => ?_)
  refine r_lv (lv2 := [(0, .ref (ad 135)), (1, .int (nI v))]) [0, 1] rfl ?_
  refine r_iconst C (nI 1) dX8_canStay_0 (by decide) ?_
  refine r_istore_n C [(2, .int (nI 1)), (0, .ref (ad 135)), (1, .int (nI v))] dX8_canStay_1 rfl (by decide) rfl ?_
  refine r_iconst C (nI 0) dX8_canStay_2 (by decide) ?_
  refine r_istore_n C [(3, .int (nI 0)), (2, .int (nI 1)), (0, .ref (ad 135)), (1, .int (nI v))] dX8_canStay_3 rfl (by decide) rfl ?_
  have Lp : ∀ (f k : Nat), v + 1 ≤ k + f → k ≤ v → VV l D cs ad 4 κ 0 M 4 [(3, .int (nI k)), (2, .int (bI (csB (M.1 136) (M.1 141) v k))), (0, .ref (ad 135)), (1, .int (nI v))] [] := by
    intro f
    induction f with
    | zero => intro k hk1 hk2; exact absurd hk1 (by omega)
    | succ f ih =>
      intro k hk1 hk2
      refine r_iload_n C dX8_canStay_4 rfl 0 rfl ?_
      refine r_iload_n C dX8_canStay_5 rfl 3 rfl ?_
      refine r_icmpN_ge C 49 dX8_canStay_6 (by decide) (by omega) (by omega) (fun h6 => ?_) (fun h6 => ?_)
      ·
        have hk9 : v = k := by omega
        subst hk9
        refine r_iload_n C dX8_canStay_49 rfl 1 rfl ?_
        exact E 0 _ _ _ _ (Nat.le_of_ble_eq_true rfl) dX8_canStay_50 (bI_n _) (⟨rfl, rfl⟩)
      ·
        refine r_iload_n C dX8_canStay_9 rfl 1 rfl ?_
        refine r_ifB_eq C 41 dX8_canStay_10 (by decide) (fun h10 => ?_) (fun h10 => ?_)
        ·
          refine r_iconst C (nI 0) dX8_canStay_41 (by decide) ?_
          refine r_topi (w := bI (csB (M.1 136) (M.1 141) v (k + 1))) (bI_off (by simp [csB, h6, h10])) ?_
          refine r_istore_n C [(2, .int (bI (csB (M.1 136) (M.1 141) v (k + 1)))), (3, .int (nI k)), (0, .ref (ad 135)), (1, .int (nI v))] dX8_canStay_42 rfl (by decide) rfl ?_
          refine r_iinc C (nI (k + 1)) [(3, .int (nI (k + 1))), (2, .int (bI (csB (M.1 136) (M.1 141) v (k + 1)))), (0, .ref (ad 135)), (1, .int (nI v))] dX8_canStay_43 (j := 1) rfl (inc_n k 1) (by decide) rfl ?_
          refine r_goto C 4 dX8_canStay_46 (by decide) ?_
          refine r_lv (lv2 := [(3, .int (nI (k + 1))), (2, .int (bI (csB (M.1 136) (M.1 141) v (k + 1)))), (0, .ref (ad 135)), (1, .int (nI v))]) [0, 1, 2, 3] rfl ?_
          exact ih (k + 1) (by omega) (by omega)
        ·
          refine r_aload_n C dX8_canStay_13 rfl 2 rfl ?_
          refine r_iload_n C dX8_canStay_14 rfl 3 rfl ?_
          refine r_iload_n C dX8_canStay_15 rfl 0 rfl ?_
          refine r_pcallV_i (nA := 2) C (Nat.le_of_ble_eq_true rfl) [.int (nI v), .int (nI k)] (c_X8_areJoined l D cs ad M v k (by omega)) (tt_V ml_X8_67 im_X8_areJoined se_X8_areJoined in_X8 co_X8_areJoined) ⟨rfl, rfl⟩ ⟨rfl, by decide, by decide, by decide⟩ ⟨Nat.le_of_ble_eq_true rfl, Nat.le_of_ble_eq_true rfl⟩ (by decide) rfl rfl rfl rfl rfl (Nat.le_of_ble_eq_true rfl) dX8_canStay_16 ?_
          refine r_ifB_eq C 37 dX8_canStay_19 (by decide) (fun h19 => ?_) (fun h19 => ?_)
          ·
            refine r_iconst C (nI 1) dX8_canStay_37 (by decide) ?_
            refine r_goto C 42 dX8_canStay_38 (by decide) ?_
            refine r_topi (w := bI (csB (M.1 136) (M.1 141) v (k + 1))) (bI_on (by simp [csB, h6, h10, h19])) ?_
            refine r_istore_n C [(2, .int (bI (csB (M.1 136) (M.1 141) v (k + 1)))), (3, .int (nI k)), (0, .ref (ad 135)), (1, .int (nI v))] dX8_canStay_42 rfl (by decide) rfl ?_
            refine r_iinc C (nI (k + 1)) [(3, .int (nI (k + 1))), (2, .int (bI (csB (M.1 136) (M.1 141) v (k + 1)))), (0, .ref (ad 135)), (1, .int (nI v))] dX8_canStay_43 (j := 1) rfl (inc_n k 1) (by decide) rfl ?_
            refine r_goto C 4 dX8_canStay_46 (by decide) ?_
            refine r_lv (lv2 := [(3, .int (nI (k + 1))), (2, .int (bI (csB (M.1 136) (M.1 141) v (k + 1)))), (0, .ref (ad 135)), (1, .int (nI v))]) [0, 1, 2, 3] rfl ?_
            exact ih (k + 1) (by omega) (by omega)
          ·
            refine r_aload_n C dX8_canStay_22 rfl 2 rfl ?_
            refine r_get C (Cn := RX8) (T := TX8) (N := 18) (id := 135) (by decide) inw_X8 rfl rfl 11 (by decide) rfl fl_X8_25 rfl dX8_canStay_23 ?_
            refine r_iload_n C dX8_canStay_26 rfl 0 rfl ?_
            refine r_iald C (id := 141) (n := 8) (a := k) (by decide) rfl (by omega) (by decide) dX8_canStay_27 ?_
            refine r_aload_n C dX8_canStay_28 rfl 2 rfl ?_
            refine r_get C (Cn := RX8) (T := TX8) (N := 18) (id := 135) (by decide) inw_X8 rfl rfl 11 (by decide) rfl fl_X8_25 rfl dX8_canStay_29 ?_
            refine r_iload_n C dX8_canStay_32 rfl 3 rfl ?_
            refine r_iald C (id := 141) (n := 8) (a := v) (by decide) rfl (by omega) (by decide) dX8_canStay_33 ?_
            refine r_icmp_eq C 41 dX8_canStay_34 (by decide) (fun h34 => ?_) (fun h34 => ?_)
            ·
              refine r_iconst C (nI 0) dX8_canStay_41 (by decide) ?_
              refine r_topi (w := bI (csB (M.1 136) (M.1 141) v (k + 1))) (bI_off (by simp [csB, h6, h10, h19, h34])) ?_
              refine r_istore_n C [(2, .int (bI (csB (M.1 136) (M.1 141) v (k + 1)))), (3, .int (nI k)), (0, .ref (ad 135)), (1, .int (nI v))] dX8_canStay_42 rfl (by decide) rfl ?_
              refine r_iinc C (nI (k + 1)) [(3, .int (nI (k + 1))), (2, .int (bI (csB (M.1 136) (M.1 141) v (k + 1)))), (0, .ref (ad 135)), (1, .int (nI v))] dX8_canStay_43 (j := 1) rfl (inc_n k 1) (by decide) rfl ?_
              refine r_goto C 4 dX8_canStay_46 (by decide) ?_
              refine r_lv (lv2 := [(3, .int (nI (k + 1))), (2, .int (bI (csB (M.1 136) (M.1 141) v (k + 1)))), (0, .ref (ad 135)), (1, .int (nI v))]) [0, 1, 2, 3] rfl ?_
              exact ih (k + 1) (by omega) (by omega)
            ·
              refine r_iconst C (nI 1) dX8_canStay_37 (by decide) ?_
              refine r_goto C 42 dX8_canStay_38 (by decide) ?_
              refine r_topi (w := bI (csB (M.1 136) (M.1 141) v (k + 1))) (bI_on (by simp [csB, h6, h10, h19, h34])) ?_
              refine r_istore_n C [(2, .int (bI (csB (M.1 136) (M.1 141) v (k + 1)))), (3, .int (nI k)), (0, .ref (ad 135)), (1, .int (nI v))] dX8_canStay_42 rfl (by decide) rfl ?_
              refine r_iinc C (nI (k + 1)) [(3, .int (nI (k + 1))), (2, .int (bI (csB (M.1 136) (M.1 141) v (k + 1)))), (0, .ref (ad 135)), (1, .int (nI v))] dX8_canStay_43 (j := 1) rfl (inc_n k 1) (by decide) rfl ?_
              refine r_goto C 4 dX8_canStay_46 (by decide) ?_
              refine r_lv (lv2 := [(3, .int (nI (k + 1))), (2, .int (bI (csB (M.1 136) (M.1 141) v (k + 1)))), (0, .ref (ad 135)), (1, .int (nI v))]) [0, 1, 2, 3] rfl ?_
              exact ih (k + 1) (by omega) (by omega)
  refine r_lv (lv2 := [(3, .int (nI 0)), (2, .int (bI (csB (M.1 136) (M.1 141) v 0))), (0, .ref (ad 135)), (1, .int (nI v))]) [0, 1, 2, 3] rfl ?_
  exact Lp (v + 1) 0 (by omega) (by omega)
set_option maxRecDepth 100000 in
set_option maxHeartbeats 4000000 in
theorem c_X8_colorBy (l : Launch) (D : va_G) (cs : Nat → ClassId) (ad : Nat → Nat) (M : Mm) (K : Nat) (hK : K ≤ 9) (n : Nat) (hn : M.1 136 0 = nI n) (hn8 : n ≤ 8) (hn1 : 1 ≤ n) : ∀ sz : Nat, Met l yX8_colorBy (.code yX8_colorBy cX8_colorBy 3 (some .boolean) :: TT) { frames := 3, cells := 0, slots := 0, locals := 66 } (va_Pc [.ref (ad 135), .int (nI K)] (fun U9 => U9.heap.size = sz ∧ wB D cs ad (fA ad sz) M U9)) (va_Qi (fun r M2 => ∃ c2, M2 = mA M 141 c2 ∧ ((∃ x, tryC (M.1 136) K n 0 cl0 = some x ∧ r = bI true ∧ ∀ j, j < n → c2 j = x j) ∨ (tryC (M.1 136) K n 0 cl0 = none ∧ r = bI false))) (wB D cs ad (fA ad sz)) (fA ad sz)) 0 0 (fA ad sz) := by
  refine st_Z (by decide) (Nat.le_of_ble_eq_true rfl) (fun κ C E => ?_)
  refine r_lv (lv2 := [(0, .ref (ad 135)), (1, .int (nI K))]) [0, 1] rfl ?_
  refine r_iconst C (nI 0) dX8_colorBy_0 (by decide) ?_
  refine r_istore_n C [(2, .int (nI 0)), (0, .ref (ad 135)), (1, .int (nI K))] dX8_colorBy_1 rfl (by decide) rfl ?_
  refine r_aload_n C dX8_colorBy_2 rfl 1 rfl ?_
  refine r_get C (Cn := RX8) (T := TX8) (N := 18) (id := 135) (by decide) inw_X8 rfl rfl 11 (by decide) rfl fl_X8_25 rfl dX8_colorBy_3 ?_
  refine r_iconst C (nI 0) dX8_colorBy_6 (by decide) ?_
  refine r_iconst C ((-1)) dX8_colorBy_7 (by decide) ?_
  refine r_iast C (id := 141) (n := 8) (a := 0) (by decide) (fun _ => rfl) (by decide) (by decide) dX8_colorBy_8 ?_
  have A : ∀ m v : Nat, v + (m + 1) = n → ∀ (r a : Nat), a + r = K → ∀ (p c : Nat → Int32), (∀ j, j < v → c j = p j) → c v + nI 1 = nI a →
    (∀ x, fsm (fun a => if okS (M.1 136) p v a v = true then tryC (M.1 136) K m (v + 1) (upd p v (nI a)) else none) r a = some x → ∀ c2 : Nat → Int32, (∀ j, j < n → c2 j = x j) → VV l D cs ad 3 κ 0 (mA M 141 c2) 9 [(2, .int (nI n)), (0, .ref (ad 135)), (1, .int (nI K))] []) →
    (fsm (fun a => if okS (M.1 136) p v a v = true then tryC (M.1 136) K m (v + 1) (upd p v (nI a)) else none) r a = none → ∀ c2 : Nat → Int32, (∀ j, j < v → c2 j = p j) → VV l D cs ad 3 κ 0 (mA M 141 c2) 9 [(2, .int (nI v - nI 1)), (0, .ref (ad 135)), (1, .int (nI K))] []) → VV l D cs ad 3 κ 0 (mA M 141 c) 9 [(2, .int (nI v)), (0, .ref (ad 135)), (1, .int (nI K))] [] := by
    intro m
    induction m with
    | zero =>
      intro v hvm r
      induction r with
      | zero =>
        intro a har p c hp hcv hsu hfa
        refine r_iload_n C dX8_colorBy_9 rfl 0 rfl ?_
        refine r_if_lt C 80 dX8_colorBy_10 (by decide) (fun h10 => ?_) (fun h10 => ?_)
        · exact absurd h10 (nI_pos (by omega))
        ·
          refine r_iload_n C dX8_colorBy_13 rfl 0 rfl ?_
          refine r_aload_n C dX8_colorBy_14 rfl 1 rfl ?_
          refine r_get C (Cn := RX8) (T := TX8) (N := 18) (id := 135) (by decide) inw_X8 rfl rfl 0 (by decide) rfl fl_X8_7 rfl dX8_colorBy_15 ?_
          refine r_iconst C (nI 0) dX8_colorBy_18 (by decide) ?_
          refine r_iald C (id := 136) (n := 55) (a := 0) (by decide) rfl (by decide) (by decide) dX8_colorBy_19 ?_
          refine r_topi (w := (M.1 136 0)) (rfl) ?_
          refine r_topi hn ?_
          refine r_icmpN_ge C 80 dX8_colorBy_20 (by decide) (by omega) (by omega) (fun h20 => ?_) (fun h20 => ?_)
          · exact absurd h20 (by omega)
          ·
            refine r_aload_n C dX8_colorBy_23 rfl 1 rfl ?_
            refine r_get C (Cn := RX8) (T := TX8) (N := 18) (id := 135) (by decide) inw_X8 rfl rfl 11 (by decide) rfl fl_X8_25 rfl dX8_colorBy_24 ?_
            refine r_iload_n C dX8_colorBy_27 rfl 0 rfl ?_
            refine r_dup2_11 C dX8_colorBy_28 rfl rfl ?_
            refine r_iald C (id := 141) (n := 8) (a := v) (by decide) rfl (by omega) (by decide) dX8_colorBy_29 ?_
            refine r_iconst C (nI 1) dX8_colorBy_30 (by decide) ?_
            refine r_iadd C dX8_colorBy_31 ?_
            refine r_topi (w := nI a) (hcv) ?_
            refine r_iast C (id := 141) (n := 8) (a := v) (by decide) (fun _ => rfl) (by omega) (by decide) dX8_colorBy_32 ?_
            refine r_mem (M2 := mA M 141 (upd c v (nI a))) (mIA _ _ _ _ _) ?_
            refine r_aload_n C dX8_colorBy_33 rfl 1 rfl ?_
            refine r_get C (Cn := RX8) (T := TX8) (N := 18) (id := 135) (by decide) inw_X8 rfl rfl 11 (by decide) rfl fl_X8_25 rfl dX8_colorBy_34 ?_
            refine r_iload_n C dX8_colorBy_37 rfl 0 rfl ?_
            refine r_iald C (id := 141) (n := 8) (a := v) (by decide) rfl (by omega) (by decide) dX8_colorBy_38 ?_
            refine r_topi (w := nI a) (by simp [mI, mJ, mA, upd, vp_updL]) ?_
            refine r_iload_n C dX8_colorBy_39 rfl 2 rfl ?_
            refine r_icmpN_lt C 49 dX8_colorBy_40 (by decide) (by omega) (by omega) (fun h40 => ?_) (fun h40 => ?_)
            ·
              refine r_aload_n C dX8_colorBy_49 rfl 1 rfl ?_
              refine r_iload_n C dX8_colorBy_50 rfl 0 rfl ?_
              refine r_pcallV_i (nA := 1) C (Nat.le_of_ble_eq_true rfl) [.int (nI v)] (c_X8_canStay l D cs ad (mA M 141 (upd c v (nI a))) v (by omega)) (tt_V ml_X8_104 im_X8_canStay se_X8_canStay in_X8 co_X8_canStay) ⟨rfl, rfl⟩ ⟨rfl, by decide, by decide, by decide⟩ ⟨Nat.le_of_ble_eq_true rfl, Nat.le_of_ble_eq_true rfl⟩ (by decide) rfl rfl rfl rfl rfl (Nat.le_of_ble_eq_true rfl) dX8_colorBy_51 ?_
              refine r_topi (w := bI (csB (M.1 136) (upd c v (nI a)) v v)) rfl ?_
              refine r_ifB_eq C 9 dX8_colorBy_54 (by decide) (fun h54 => ?_) (fun h54 => ?_)
              ·
                exact absurd h40 (by omega)
              ·
                refine r_iinc C (nI (v + 1)) [(2, .int (nI (v + 1))), (0, .ref (ad 135)), (1, .int (nI K))] dX8_colorBy_57 (j := 0) rfl (inc_n v 1) (by decide) rfl ?_
                refine r_iload_n C dX8_colorBy_60 rfl 0 rfl ?_
                refine r_aload_n C dX8_colorBy_61 rfl 1 rfl ?_
                refine r_get C (Cn := RX8) (T := TX8) (N := 18) (id := 135) (by decide) inw_X8 rfl rfl 0 (by decide) rfl fl_X8_7 rfl dX8_colorBy_62 ?_
                refine r_iconst C (nI 0) dX8_colorBy_65 (by decide) ?_
                refine r_iald C (id := 136) (n := 55) (a := 0) (by decide) rfl (by decide) (by decide) dX8_colorBy_66 ?_
                refine r_topi (w := (M.1 136 0)) (rfl) ?_
                refine r_topi hn ?_
                refine r_icmpN_ge C 9 dX8_colorBy_67 (by decide) (by omega) (by omega) (fun h67 => ?_) (fun h67 => ?_)
                ·
                  exact absurd h40 (by omega)
                ·
                  refine r_aload_n C dX8_colorBy_70 rfl 1 rfl ?_
                  refine r_get C (Cn := RX8) (T := TX8) (N := 18) (id := 135) (by decide) inw_X8 rfl rfl 11 (by decide) rfl fl_X8_25 rfl dX8_colorBy_71 ?_
                  refine r_iload_n C dX8_colorBy_74 rfl 0 rfl ?_
                  refine r_iconst C ((-1)) dX8_colorBy_75 (by decide) ?_
                  refine r_iast C (id := 141) (n := 8) (a := v + 1) (by decide) (fun _ => rfl) (by omega) (by decide) dX8_colorBy_76 ?_
                  refine r_goto C 9 dX8_colorBy_77 (by decide) ?_
                  exact absurd h40 (by omega)
            ·
              refine r_iinc C ((nI v - nI 1)) [(2, .int (nI v - nI 1)), (0, .ref (ad 135)), (1, .int (nI K))] dX8_colorBy_43 (j := 0) rfl (nIm1 v) (by decide) rfl ?_
              refine r_goto C 9 dX8_colorBy_46 (by decide) ?_
              refine r_lv (lv2 := [(2, .int (nI v - nI 1)), (0, .ref (ad 135)), (1, .int (nI K))]) [0, 1, 2] rfl ?_
              exact hfa rfl _ (fun j hj => by rw [upd_n _ _ (by omega)]; exact hp j hj)
      | succ r ihr =>
        intro a har p c hp hcv hsu hfa
        refine r_iload_n C dX8_colorBy_9 rfl 0 rfl ?_
        refine r_if_lt C 80 dX8_colorBy_10 (by decide) (fun h10 => ?_) (fun h10 => ?_)
        · exact absurd h10 (nI_pos (by omega))
        ·
          refine r_iload_n C dX8_colorBy_13 rfl 0 rfl ?_
          refine r_aload_n C dX8_colorBy_14 rfl 1 rfl ?_
          refine r_get C (Cn := RX8) (T := TX8) (N := 18) (id := 135) (by decide) inw_X8 rfl rfl 0 (by decide) rfl fl_X8_7 rfl dX8_colorBy_15 ?_
          refine r_iconst C (nI 0) dX8_colorBy_18 (by decide) ?_
          refine r_iald C (id := 136) (n := 55) (a := 0) (by decide) rfl (by decide) (by decide) dX8_colorBy_19 ?_
          refine r_topi (w := (M.1 136 0)) (rfl) ?_
          refine r_topi hn ?_
          refine r_icmpN_ge C 80 dX8_colorBy_20 (by decide) (by omega) (by omega) (fun h20 => ?_) (fun h20 => ?_)
          · exact absurd h20 (by omega)
          ·
            refine r_aload_n C dX8_colorBy_23 rfl 1 rfl ?_
            refine r_get C (Cn := RX8) (T := TX8) (N := 18) (id := 135) (by decide) inw_X8 rfl rfl 11 (by decide) rfl fl_X8_25 rfl dX8_colorBy_24 ?_
            refine r_iload_n C dX8_colorBy_27 rfl 0 rfl ?_
            refine r_dup2_11 C dX8_colorBy_28 rfl rfl ?_
            refine r_iald C (id := 141) (n := 8) (a := v) (by decide) rfl (by omega) (by decide) dX8_colorBy_29 ?_
            refine r_iconst C (nI 1) dX8_colorBy_30 (by decide) ?_
            refine r_iadd C dX8_colorBy_31 ?_
            refine r_topi (w := nI a) (hcv) ?_
            refine r_iast C (id := 141) (n := 8) (a := v) (by decide) (fun _ => rfl) (by omega) (by decide) dX8_colorBy_32 ?_
            refine r_mem (M2 := mA M 141 (upd c v (nI a))) (mIA _ _ _ _ _) ?_
            refine r_aload_n C dX8_colorBy_33 rfl 1 rfl ?_
            refine r_get C (Cn := RX8) (T := TX8) (N := 18) (id := 135) (by decide) inw_X8 rfl rfl 11 (by decide) rfl fl_X8_25 rfl dX8_colorBy_34 ?_
            refine r_iload_n C dX8_colorBy_37 rfl 0 rfl ?_
            refine r_iald C (id := 141) (n := 8) (a := v) (by decide) rfl (by omega) (by decide) dX8_colorBy_38 ?_
            refine r_topi (w := nI a) (by simp [mI, mJ, mA, upd, vp_updL]) ?_
            refine r_iload_n C dX8_colorBy_39 rfl 2 rfl ?_
            refine r_icmpN_lt C 49 dX8_colorBy_40 (by decide) (by omega) (by omega) (fun h40 => ?_) (fun h40 => ?_)
            ·
              refine r_aload_n C dX8_colorBy_49 rfl 1 rfl ?_
              refine r_iload_n C dX8_colorBy_50 rfl 0 rfl ?_
              refine r_pcallV_i (nA := 1) C (Nat.le_of_ble_eq_true rfl) [.int (nI v)] (c_X8_canStay l D cs ad (mA M 141 (upd c v (nI a))) v (by omega)) (tt_V ml_X8_104 im_X8_canStay se_X8_canStay in_X8 co_X8_canStay) ⟨rfl, rfl⟩ ⟨rfl, by decide, by decide, by decide⟩ ⟨Nat.le_of_ble_eq_true rfl, Nat.le_of_ble_eq_true rfl⟩ (by decide) rfl rfl rfl rfl rfl (Nat.le_of_ble_eq_true rfl) dX8_colorBy_51 ?_
              refine r_topi (w := bI (csB (M.1 136) (upd c v (nI a)) v v)) rfl ?_
              refine r_ifB_eq C 9 dX8_colorBy_54 (by decide) (fun h54 => ?_) (fun h54 => ?_)
              ·
                refine r_lv (lv2 := [(2, .int (nI v)), (0, .ref (ad 135)), (1, .int (nI K))]) [0, 1, 2] rfl ?_
                have hg : okS (M.1 136) p v a v = false := by rw [← csB_ok hp (Nat.le_refl v)]; exact h54
                exact ihr (a + 1) (by omega) p _ (fun j hj => by rw [upd_n _ _ (by omega)]; exact hp j hj) (by rw [upd_e, nI_add]) (fun x hx => hsu x (by rw [fsm_n (if_neg (by rw [hg]; decide))]; exact hx)) (fun hx => hfa (by rw [fsm_n (if_neg (by rw [hg]; decide))]; exact hx))
              ·
                refine r_iinc C (nI (v + 1)) [(2, .int (nI (v + 1))), (0, .ref (ad 135)), (1, .int (nI K))] dX8_colorBy_57 (j := 0) rfl (inc_n v 1) (by decide) rfl ?_
                refine r_iload_n C dX8_colorBy_60 rfl 0 rfl ?_
                refine r_aload_n C dX8_colorBy_61 rfl 1 rfl ?_
                refine r_get C (Cn := RX8) (T := TX8) (N := 18) (id := 135) (by decide) inw_X8 rfl rfl 0 (by decide) rfl fl_X8_7 rfl dX8_colorBy_62 ?_
                refine r_iconst C (nI 0) dX8_colorBy_65 (by decide) ?_
                refine r_iald C (id := 136) (n := 55) (a := 0) (by decide) rfl (by decide) (by decide) dX8_colorBy_66 ?_
                refine r_topi (w := (M.1 136 0)) (rfl) ?_
                refine r_topi hn ?_
                refine r_icmpN_ge C 9 dX8_colorBy_67 (by decide) (by omega) (by omega) (fun h67 => ?_) (fun h67 => ?_)
                ·
                  have hg : okS (M.1 136) p v a v = true := by rw [← csB_ok hp (Nat.le_refl v)]; exact h54
                  refine r_lv (lv2 := [(2, .int (nI (v + 1))), (0, .ref (ad 135)), (1, .int (nI K))]) [0, 1, 2] rfl ?_
                  obtain rfl : n = v + 1 := by omega
                  exact hsu (upd p v (nI a)) (fsm_s (by rw [if_pos hg]; rfl)) _ (upd_v hp)
                ·
                  refine r_aload_n C dX8_colorBy_70 rfl 1 rfl ?_
                  refine r_get C (Cn := RX8) (T := TX8) (N := 18) (id := 135) (by decide) inw_X8 rfl rfl 11 (by decide) rfl fl_X8_25 rfl dX8_colorBy_71 ?_
                  refine r_iload_n C dX8_colorBy_74 rfl 0 rfl ?_
                  refine r_iconst C ((-1)) dX8_colorBy_75 (by decide) ?_
                  refine r_iast C (id := 141) (n := 8) (a := v + 1) (by decide) (fun _ => rfl) (by omega) (by decide) dX8_colorBy_76 ?_
                  refine r_goto C 9 dX8_colorBy_77 (by decide) ?_
                  have hg : okS (M.1 136) p v a v = true := by rw [← csB_ok hp (Nat.le_refl v)]; exact h54
                  exact absurd h67 (by omega)
            ·
              refine r_iinc C ((nI v - nI 1)) [(2, .int (nI v - nI 1)), (0, .ref (ad 135)), (1, .int (nI K))] dX8_colorBy_43 (j := 0) rfl (nIm1 v) (by decide) rfl ?_
              refine r_goto C 9 dX8_colorBy_46 (by decide) ?_
              refine r_lv (lv2 := [(2, .int (nI v - nI 1)), (0, .ref (ad 135)), (1, .int (nI K))]) [0, 1, 2] rfl ?_
              exact absurd h40 (by omega)
    | succ m ihm =>
      intro v hvm r
      induction r with
      | zero =>
        intro a har p c hp hcv hsu hfa
        refine r_iload_n C dX8_colorBy_9 rfl 0 rfl ?_
        refine r_if_lt C 80 dX8_colorBy_10 (by decide) (fun h10 => ?_) (fun h10 => ?_)
        · exact absurd h10 (nI_pos (by omega))
        ·
          refine r_iload_n C dX8_colorBy_13 rfl 0 rfl ?_
          refine r_aload_n C dX8_colorBy_14 rfl 1 rfl ?_
          refine r_get C (Cn := RX8) (T := TX8) (N := 18) (id := 135) (by decide) inw_X8 rfl rfl 0 (by decide) rfl fl_X8_7 rfl dX8_colorBy_15 ?_
          refine r_iconst C (nI 0) dX8_colorBy_18 (by decide) ?_
          refine r_iald C (id := 136) (n := 55) (a := 0) (by decide) rfl (by decide) (by decide) dX8_colorBy_19 ?_
          refine r_topi (w := (M.1 136 0)) (rfl) ?_
          refine r_topi hn ?_
          refine r_icmpN_ge C 80 dX8_colorBy_20 (by decide) (by omega) (by omega) (fun h20 => ?_) (fun h20 => ?_)
          · exact absurd h20 (by omega)
          ·
            refine r_aload_n C dX8_colorBy_23 rfl 1 rfl ?_
            refine r_get C (Cn := RX8) (T := TX8) (N := 18) (id := 135) (by decide) inw_X8 rfl rfl 11 (by decide) rfl fl_X8_25 rfl dX8_colorBy_24 ?_
            refine r_iload_n C dX8_colorBy_27 rfl 0 rfl ?_
            refine r_dup2_11 C dX8_colorBy_28 rfl rfl ?_
            refine r_iald C (id := 141) (n := 8) (a := v) (by decide) rfl (by omega) (by decide) dX8_colorBy_29 ?_
            refine r_iconst C (nI 1) dX8_colorBy_30 (by decide) ?_
            refine r_iadd C dX8_colorBy_31 ?_
            refine r_topi (w := nI a) (hcv) ?_
            refine r_iast C (id := 141) (n := 8) (a := v) (by decide) (fun _ => rfl) (by omega) (by decide) dX8_colorBy_32 ?_
            refine r_mem (M2 := mA M 141 (upd c v (nI a))) (mIA _ _ _ _ _) ?_
            refine r_aload_n C dX8_colorBy_33 rfl 1 rfl ?_
            refine r_get C (Cn := RX8) (T := TX8) (N := 18) (id := 135) (by decide) inw_X8 rfl rfl 11 (by decide) rfl fl_X8_25 rfl dX8_colorBy_34 ?_
            refine r_iload_n C dX8_colorBy_37 rfl 0 rfl ?_
            refine r_iald C (id := 141) (n := 8) (a := v) (by decide) rfl (by omega) (by decide) dX8_colorBy_38 ?_
            refine r_topi (w := nI a) (by simp [mI, mJ, mA, upd, vp_updL]) ?_
            refine r_iload_n C dX8_colorBy_39 rfl 2 rfl ?_
            refine r_icmpN_lt C 49 dX8_colorBy_40 (by decide) (by omega) (by omega) (fun h40 => ?_) (fun h40 => ?_)
            ·
              refine r_aload_n C dX8_colorBy_49 rfl 1 rfl ?_
              refine r_iload_n C dX8_colorBy_50 rfl 0 rfl ?_
              refine r_pcallV_i (nA := 1) C (Nat.le_of_ble_eq_true rfl) [.int (nI v)] (c_X8_canStay l D cs ad (mA M 141 (upd c v (nI a))) v (by omega)) (tt_V ml_X8_104 im_X8_canStay se_X8_canStay in_X8 co_X8_canStay) ⟨rfl, rfl⟩ ⟨rfl, by decide, by decide, by decide⟩ ⟨Nat.le_of_ble_eq_true rfl, Nat.le_of_ble_eq_true rfl⟩ (by decide) rfl rfl rfl rfl rfl (Nat.le_of_ble_eq_true rfl) dX8_colorBy_51 ?_
              refine r_topi (w := bI (csB (M.1 136) (upd c v (nI a)) v v)) rfl ?_
              refine r_ifB_eq C 9 dX8_colorBy_54 (by decide) (fun h54 => ?_) (fun h54 => ?_)
              ·
                exact absurd h40 (by omega)
              ·
                refine r_iinc C (nI (v + 1)) [(2, .int (nI (v + 1))), (0, .ref (ad 135)), (1, .int (nI K))] dX8_colorBy_57 (j := 0) rfl (inc_n v 1) (by decide) rfl ?_
                refine r_iload_n C dX8_colorBy_60 rfl 0 rfl ?_
                refine r_aload_n C dX8_colorBy_61 rfl 1 rfl ?_
                refine r_get C (Cn := RX8) (T := TX8) (N := 18) (id := 135) (by decide) inw_X8 rfl rfl 0 (by decide) rfl fl_X8_7 rfl dX8_colorBy_62 ?_
                refine r_iconst C (nI 0) dX8_colorBy_65 (by decide) ?_
                refine r_iald C (id := 136) (n := 55) (a := 0) (by decide) rfl (by decide) (by decide) dX8_colorBy_66 ?_
                refine r_topi (w := (M.1 136 0)) (rfl) ?_
                refine r_topi hn ?_
                refine r_icmpN_ge C 9 dX8_colorBy_67 (by decide) (by omega) (by omega) (fun h67 => ?_) (fun h67 => ?_)
                ·
                  exact absurd h40 (by omega)
                ·
                  refine r_aload_n C dX8_colorBy_70 rfl 1 rfl ?_
                  refine r_get C (Cn := RX8) (T := TX8) (N := 18) (id := 135) (by decide) inw_X8 rfl rfl 11 (by decide) rfl fl_X8_25 rfl dX8_colorBy_71 ?_
                  refine r_iload_n C dX8_colorBy_74 rfl 0 rfl ?_
                  refine r_iconst C ((-1)) dX8_colorBy_75 (by decide) ?_
                  refine r_iast C (id := 141) (n := 8) (a := v + 1) (by decide) (fun _ => rfl) (by omega) (by decide) dX8_colorBy_76 ?_
                  refine r_goto C 9 dX8_colorBy_77 (by decide) ?_
                  exact absurd h40 (by omega)
            ·
              refine r_iinc C ((nI v - nI 1)) [(2, .int (nI v - nI 1)), (0, .ref (ad 135)), (1, .int (nI K))] dX8_colorBy_43 (j := 0) rfl (nIm1 v) (by decide) rfl ?_
              refine r_goto C 9 dX8_colorBy_46 (by decide) ?_
              refine r_lv (lv2 := [(2, .int (nI v - nI 1)), (0, .ref (ad 135)), (1, .int (nI K))]) [0, 1, 2] rfl ?_
              exact hfa rfl _ (fun j hj => by rw [upd_n _ _ (by omega)]; exact hp j hj)
      | succ r ihr =>
        intro a har p c hp hcv hsu hfa
        refine r_iload_n C dX8_colorBy_9 rfl 0 rfl ?_
        refine r_if_lt C 80 dX8_colorBy_10 (by decide) (fun h10 => ?_) (fun h10 => ?_)
        · exact absurd h10 (nI_pos (by omega))
        ·
          refine r_iload_n C dX8_colorBy_13 rfl 0 rfl ?_
          refine r_aload_n C dX8_colorBy_14 rfl 1 rfl ?_
          refine r_get C (Cn := RX8) (T := TX8) (N := 18) (id := 135) (by decide) inw_X8 rfl rfl 0 (by decide) rfl fl_X8_7 rfl dX8_colorBy_15 ?_
          refine r_iconst C (nI 0) dX8_colorBy_18 (by decide) ?_
          refine r_iald C (id := 136) (n := 55) (a := 0) (by decide) rfl (by decide) (by decide) dX8_colorBy_19 ?_
          refine r_topi (w := (M.1 136 0)) (rfl) ?_
          refine r_topi hn ?_
          refine r_icmpN_ge C 80 dX8_colorBy_20 (by decide) (by omega) (by omega) (fun h20 => ?_) (fun h20 => ?_)
          · exact absurd h20 (by omega)
          ·
            refine r_aload_n C dX8_colorBy_23 rfl 1 rfl ?_
            refine r_get C (Cn := RX8) (T := TX8) (N := 18) (id := 135) (by decide) inw_X8 rfl rfl 11 (by decide) rfl fl_X8_25 rfl dX8_colorBy_24 ?_
            refine r_iload_n C dX8_colorBy_27 rfl 0 rfl ?_
            refine r_dup2_11 C dX8_colorBy_28 rfl rfl ?_
            refine r_iald C (id := 141) (n := 8) (a := v) (by decide) rfl (by omega) (by decide) dX8_colorBy_29 ?_
            refine r_iconst C (nI 1) dX8_colorBy_30 (by decide) ?_
            refine r_iadd C dX8_colorBy_31 ?_
            refine r_topi (w := nI a) (hcv) ?_
            refine r_iast C (id := 141) (n := 8) (a := v) (by decide) (fun _ => rfl) (by omega) (by decide) dX8_colorBy_32 ?_
            refine r_mem (M2 := mA M 141 (upd c v (nI a))) (mIA _ _ _ _ _) ?_
            refine r_aload_n C dX8_colorBy_33 rfl 1 rfl ?_
            refine r_get C (Cn := RX8) (T := TX8) (N := 18) (id := 135) (by decide) inw_X8 rfl rfl 11 (by decide) rfl fl_X8_25 rfl dX8_colorBy_34 ?_
            refine r_iload_n C dX8_colorBy_37 rfl 0 rfl ?_
            refine r_iald C (id := 141) (n := 8) (a := v) (by decide) rfl (by omega) (by decide) dX8_colorBy_38 ?_
            refine r_topi (w := nI a) (by simp [mI, mJ, mA, upd, vp_updL]) ?_
            refine r_iload_n C dX8_colorBy_39 rfl 2 rfl ?_
            refine r_icmpN_lt C 49 dX8_colorBy_40 (by decide) (by omega) (by omega) (fun h40 => ?_) (fun h40 => ?_)
            ·
              refine r_aload_n C dX8_colorBy_49 rfl 1 rfl ?_
              refine r_iload_n C dX8_colorBy_50 rfl 0 rfl ?_
              refine r_pcallV_i (nA := 1) C (Nat.le_of_ble_eq_true rfl) [.int (nI v)] (c_X8_canStay l D cs ad (mA M 141 (upd c v (nI a))) v (by omega)) (tt_V ml_X8_104 im_X8_canStay se_X8_canStay in_X8 co_X8_canStay) ⟨rfl, rfl⟩ ⟨rfl, by decide, by decide, by decide⟩ ⟨Nat.le_of_ble_eq_true rfl, Nat.le_of_ble_eq_true rfl⟩ (by decide) rfl rfl rfl rfl rfl (Nat.le_of_ble_eq_true rfl) dX8_colorBy_51 ?_
              refine r_topi (w := bI (csB (M.1 136) (upd c v (nI a)) v v)) rfl ?_
              refine r_ifB_eq C 9 dX8_colorBy_54 (by decide) (fun h54 => ?_) (fun h54 => ?_)
              ·
                refine r_lv (lv2 := [(2, .int (nI v)), (0, .ref (ad 135)), (1, .int (nI K))]) [0, 1, 2] rfl ?_
                have hg : okS (M.1 136) p v a v = false := by rw [← csB_ok hp (Nat.le_refl v)]; exact h54
                exact ihr (a + 1) (by omega) p _ (fun j hj => by rw [upd_n _ _ (by omega)]; exact hp j hj) (by rw [upd_e, nI_add]) (fun x hx => hsu x (by rw [fsm_n (if_neg (by rw [hg]; decide))]; exact hx)) (fun hx => hfa (by rw [fsm_n (if_neg (by rw [hg]; decide))]; exact hx))
              ·
                refine r_iinc C (nI (v + 1)) [(2, .int (nI (v + 1))), (0, .ref (ad 135)), (1, .int (nI K))] dX8_colorBy_57 (j := 0) rfl (inc_n v 1) (by decide) rfl ?_
                refine r_iload_n C dX8_colorBy_60 rfl 0 rfl ?_
                refine r_aload_n C dX8_colorBy_61 rfl 1 rfl ?_
                refine r_get C (Cn := RX8) (T := TX8) (N := 18) (id := 135) (by decide) inw_X8 rfl rfl 0 (by decide) rfl fl_X8_7 rfl dX8_colorBy_62 ?_
                refine r_iconst C (nI 0) dX8_colorBy_65 (by decide) ?_
                refine r_iald C (id := 136) (n := 55) (a := 0) (by decide) rfl (by decide) (by decide) dX8_colorBy_66 ?_
                refine r_topi (w := (M.1 136 0)) (rfl) ?_
                refine r_topi hn ?_
                refine r_icmpN_ge C 9 dX8_colorBy_67 (by decide) (by omega) (by omega) (fun h67 => ?_) (fun h67 => ?_)
                ·
                  have hg : okS (M.1 136) p v a v = true := by rw [← csB_ok hp (Nat.le_refl v)]; exact h54
                  exact absurd h67 (by omega)
                ·
                  refine r_aload_n C dX8_colorBy_70 rfl 1 rfl ?_
                  refine r_get C (Cn := RX8) (T := TX8) (N := 18) (id := 135) (by decide) inw_X8 rfl rfl 11 (by decide) rfl fl_X8_25 rfl dX8_colorBy_71 ?_
                  refine r_iload_n C dX8_colorBy_74 rfl 0 rfl ?_
                  refine r_iconst C ((-1)) dX8_colorBy_75 (by decide) ?_
                  refine r_iast C (id := 141) (n := 8) (a := v + 1) (by decide) (fun _ => rfl) (by omega) (by decide) dX8_colorBy_76 ?_
                  refine r_goto C 9 dX8_colorBy_77 (by decide) ?_
                  have hg : okS (M.1 136) p v a v = true := by rw [← csB_ok hp (Nat.le_refl v)]; exact h54
                  refine r_mem (M2 := mA M 141 (upd (upd c v (nI a)) (v + 1) (-1))) (mIA _ _ _ _ _) ?_
                  refine r_lv (lv2 := [(2, .int (nI (v + 1))), (0, .ref (ad 135)), (1, .int (nI K))]) [0, 1, 2] rfl ?_
                  refine ihm (v + 1) (by omega) K 0 (by omega) (upd p v (nI a)) _ (fun j hj => ?_) (by rw [upd_e]; decide) (fun x hx c2 hc2 => hsu x (fsm_s (by rw [if_pos hg]; exact hx)) c2 hc2) (fun hx c2 hc2 => ?_)
                  · rw [upd_n _ _ (by omega)]; by_cases q : j = v
                    · subst q; rw [upd_e, upd_e]
                    · rw [upd_n _ _ q, upd_n _ _ q]; exact hp j (by omega)
                  · rw [pk_sub (by omega), Nat.add_sub_cancel]
                    have hn9 : (if okS (M.1 136) p v a v = true then tryC (M.1 136) K (m + 1) (v + 1) (upd p v (nI a)) else none) = none := by rw [if_pos hg]; exact hx
                    exact ihr (a + 1) (by omega) p _ (fun j hj => by rw [hc2 j (by omega), upd_n _ _ (by omega)]) (by rw [hc2 v (by omega), upd_e, nI_add]) (fun x hx => hsu x (by rw [fsm_n hn9]; exact hx)) (fun hx => hfa (by rw [fsm_n hn9]; exact hx))
            ·
              refine r_iinc C ((nI v - nI 1)) [(2, .int (nI v - nI 1)), (0, .ref (ad 135)), (1, .int (nI K))] dX8_colorBy_43 (j := 0) rfl (nIm1 v) (by decide) rfl ?_
              refine r_goto C 9 dX8_colorBy_46 (by decide) ?_
              refine r_lv (lv2 := [(2, .int (nI v - nI 1)), (0, .ref (ad 135)), (1, .int (nI K))]) [0, 1, 2] rfl ?_
              exact absurd h40 (by omega)
  obtain ⟨n1, rfl⟩ : ∃ n1, n = n1 + 1 := ⟨n - 1, by omega⟩
  refine r_mem (M2 := mA M 141 (upd (M.1 141) 0 (-1))) (mI_A _ _ _ _) ?_
  refine r_lv (lv2 := [(2, .int (nI 0)), (0, .ref (ad 135)), (1, .int (nI K))]) [0, 1, 2] rfl ?_
  refine A n1 0 (by omega) K 0 (by omega) cl0 _ (fun j hj => absurd hj (Nat.not_lt_zero j)) (by rw [upd_e]; decide) (fun x hx c2 hc2 => ?_) (fun hx c2 _ => ?_)
  ·
    refine r_iload_n C dX8_colorBy_9 rfl 0 rfl ?_
    refine r_if_lt C 80 dX8_colorBy_10 (by decide) (fun h10 => ?_) (fun h10 => ?_)
    · exact absurd h10 (nI_pos (by omega))
    ·
      refine r_iload_n C dX8_colorBy_13 rfl 0 rfl ?_
      refine r_aload_n C dX8_colorBy_14 rfl 1 rfl ?_
      refine r_get C (Cn := RX8) (T := TX8) (N := 18) (id := 135) (by decide) inw_X8 rfl rfl 0 (by decide) rfl fl_X8_7 rfl dX8_colorBy_15 ?_
      refine r_iconst C (nI 0) dX8_colorBy_18 (by decide) ?_
      refine r_iald C (id := 136) (n := 55) (a := 0) (by decide) rfl (by decide) (by decide) dX8_colorBy_19 ?_
      refine r_topi (w := (M.1 136 0)) (rfl) ?_
      refine r_topi hn ?_
      refine r_icmpN_ge C 80 dX8_colorBy_20 (by decide) (by omega) (by omega) (fun h20 => ?_) (fun h20 => ?_)
      ·
        refine r_iload_n C dX8_colorBy_80 rfl 0 rfl ?_
        refine r_aload_n C dX8_colorBy_81 rfl 1 rfl ?_
        refine r_get C (Cn := RX8) (T := TX8) (N := 18) (id := 135) (by decide) inw_X8 rfl rfl 0 (by decide) rfl fl_X8_7 rfl dX8_colorBy_82 ?_
        refine r_iconst C (nI 0) dX8_colorBy_85 (by decide) ?_
        refine r_iald C (id := 136) (n := 55) (a := 0) (by decide) rfl (by decide) (by decide) dX8_colorBy_86 ?_
        refine r_topi (w := (M.1 136 0)) (rfl) ?_
        refine r_topi hn ?_
        refine r_icmpN_ne C 94 dX8_colorBy_87 (by decide) (by omega) (by omega) (fun h87 => ?_) (fun h87 => ?_)
        · exact absurd rfl h87
        ·
          refine r_iconst C (nI 1) dX8_colorBy_90 (by decide) ?_
          refine r_goto C 95 dX8_colorBy_91 (by decide) ?_
          exact E 0 _ _ _ _ (Nat.le_of_ble_eq_true rfl) dX8_colorBy_95 rfl (⟨c2, rfl, Or.inl ⟨x, by show fsm _ _ _ = _; exact hx, bI_on rfl, hc2⟩⟩)
      · exact absurd (Nat.le_refl _) h20
  ·
    refine r_iload_n C dX8_colorBy_9 rfl 0 rfl ?_
    refine r_if_lt C 80 dX8_colorBy_10 (by decide) (fun h10 => ?_) (fun h10 => ?_)
    ·
      refine r_iload_n C dX8_colorBy_80 rfl 0 rfl ?_
      refine r_aload_n C dX8_colorBy_81 rfl 1 rfl ?_
      refine r_get C (Cn := RX8) (T := TX8) (N := 18) (id := 135) (by decide) inw_X8 rfl rfl 0 (by decide) rfl fl_X8_7 rfl dX8_colorBy_82 ?_
      refine r_iconst C (nI 0) dX8_colorBy_85 (by decide) ?_
      refine r_iald C (id := 136) (n := 55) (a := 0) (by decide) rfl (by decide) (by decide) dX8_colorBy_86 ?_
      refine r_topi (w := (M.1 136 0)) (rfl) ?_
      refine r_topi hn ?_
      refine r_icmp_ne C 94 dX8_colorBy_87 (by decide) (fun h87 => ?_) (fun h87 => ?_)
      ·
        refine r_iconst C (nI 0) dX8_colorBy_94 (by decide) ?_
        exact E 0 _ _ _ _ (Nat.le_of_ble_eq_true rfl) dX8_colorBy_95 rfl (⟨c2, rfl, Or.inr ⟨by show fsm _ _ _ = _; exact hx, bI_off rfl⟩⟩)
      · exact absurd h87 (nm1_ne hn8)
    · exact absurd (by decide : nI 0 - nI 1 < 0) h10
set_option maxRecDepth 100000 in
set_option maxHeartbeats 4000000 in
theorem c_X8_colorAll (l : Launch) (D : va_G) (cs : Nat → ClassId) (ad : Nat → Nat) (M : Mm) (n : Nat) (hn : M.1 136 0 = nI n) (hn8 : n ≤ 8) (hn1 : 1 ≤ n) (hex : fi (fun k => (cfC (M.1 136) n k).isSome) n < n) : ∀ sz : Nat, Met l yX8_colorAll (.code yX8_colorAll cX8_colorAll 2 (some .int) :: TT) { frames := 4, cells := 0, slots := 0, locals := 88 } (va_Pc [.ref (ad 135)] (fun U9 => U9.heap.size = sz ∧ wB D cs ad (fA ad sz) M U9)) (va_Qi (fun r M2 => ∃ c2, M2 = mA M 141 c2 ∧ r = nI (cnK (M.1 136) n) ∧ ∀ j, j < n → c2 j = crs (M.1 136) n j) (wB D cs ad (fA ad sz)) (fA ad sz)) 0 0 (fA ad sz) := by
  refine st_I (by decide) (Nat.le_of_ble_eq_true rfl) (fun κ C E => ?_)
  refine r_lv (lv2 := [(0, .ref (ad 135))]) [0] rfl ?_
  refine r_iconst C (nI 1) dX8_colorAll_0 (by decide) ?_
  refine r_istore_n C [(1, .int (nI 1)), (0, .ref (ad 135))] dX8_colorAll_1 rfl (by decide) rfl ?_
  have Lc : ∀ (f k : Nat) (c : Nat → Int32), fi (fun k => (cfC (M.1 136) n k).isSome) n + 1 ≤ k + f → k ≤ fi (fun k => (cfC (M.1 136) n k).isSome) n → (∀ j, j < k → (cfC (M.1 136) n j).isSome = false) → VV l D cs ad 2 κ 0 (mA M 141 c) 2 [(1, .int (nI (k + 1))), (0, .ref (ad 135))] [] := by
    intro f
    induction f with
    | zero => intro k c h1 h2; exact absurd h1 (by omega)
    | succ f ih =>
      intro k c h1 h2 h3
      refine r_aload_n C dX8_colorAll_2 rfl 1 rfl ?_
      refine r_iload_n C dX8_colorAll_3 rfl 0 rfl ?_
      refine r_callV_i (nA := 1) C (Nat.le_of_ble_eq_true rfl) [.int (nI (k + 1))] (c_X8_colorBy l D cs ad (mA M 141 c) (k + 1) (by omega) n hn hn8 hn1) (tt_V ml_X8_107 im_X8_colorBy se_X8_colorBy in_X8 co_X8_colorBy) ⟨rfl, rfl⟩ ⟨rfl, by decide, by decide, by decide⟩ ⟨Nat.le_of_ble_eq_true rfl, Nat.le_of_ble_eq_true rfl⟩ (by decide) rfl rfl rfl rfl rfl (Nat.le_of_ble_eq_true rfl) dX8_colorAll_4 (fun ru1 Mu1 qu1 => ?_)
      obtain ⟨c2, rfl, ⟨x, hx, rfl, hc2⟩ | ⟨hx, rfl⟩⟩ := qu1
      ·
        have hx : tryC (M.1 136) (k + 1) n 0 cl0 = some x := hx
        refine r_mem (M2 := mA M 141 c2) (mAA _ _ _ _) ?_
        refine r_ifB_ne C 16 dX8_colorAll_7 (by decide) (fun h7 => ?_) (fun h7 => ?_)
        ·
          refine r_iload_n C dX8_colorAll_16 rfl 0 rfl ?_
          exact E 0 _ _ _ _ (Nat.le_of_ble_eq_true rfl) dX8_colorAll_17 (⟨c2, rfl, congrArg (fun k => nI (k + 1)) (fi_at (by omega) (by unfold cfC; rw [hx]; rfl) h3).symm, fun j hj => by rw [hc2 j hj]; unfold crs; rw [fi_at (by omega) (by unfold cfC; rw [hx]; rfl) h3]; unfold cfC; rw [hx]; rfl⟩)
        · exact absurd (h7.symm.trans rfl) (by decide)
      ·
        have hx : tryC (M.1 136) (k + 1) n 0 cl0 = none := hx
        refine r_mem (M2 := mA M 141 c2) (mAA _ _ _ _) ?_
        refine r_ifB_ne C 16 dX8_colorAll_7 (by decide) (fun h7 => ?_) (fun h7 => ?_)
        · exact absurd (h7.symm.trans rfl) (by decide)
        ·
          refine r_iinc C (nI ((k + 1) + 1)) [(1, .int (nI ((k + 1) + 1))), (0, .ref (ad 135))] dX8_colorAll_10 (j := 0) rfl (inc_n (k + 1) 1) (by decide) rfl ?_
          refine r_goto C 2 dX8_colorAll_13 (by decide) ?_
          have hne : k ≠ fi (fun k => (cfC (M.1 136) n k).isSome) n := fun q => by have h9 := fi_yes hex; rw [← q] at h9; unfold cfC at h9; rw [hx] at h9; exact absurd h9 (by decide)
          refine r_lv (lv2 := [(1, .int (nI (k + 1 + 1))), (0, .ref (ad 135))]) [0, 1] rfl ?_
          exact ih (k + 1) _ (by omega) (by omega) (lt_s h3 (by unfold cfC; rw [hx]; rfl))
  refine r_mem (M2 := mA M 141 (M.1 141)) (mA_id rfl) ?_
  refine r_lv (lv2 := [(1, .int (nI (0 + 1))), (0, .ref (ad 135))]) [0, 1] rfl ?_
  exact Lc (fi (fun k => (cfC (M.1 136) n k).isSome) n + 1) 0 _ (by omega) (Nat.zero_le _) (fun j hj => absurd hj (Nat.not_lt_zero j))
