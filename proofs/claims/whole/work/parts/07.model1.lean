/-! ===== the reference's small methods (written by wip/whole/gen/model1.py) ===== -/
theorem inc_n (a n : Nat) : nI a + Int32.ofInt (n : Int) = nI (a + n) := by
  have h : Int32.ofInt (n : Int) = nI n := rfl
  rw [h, nI_add]
theorem bI_on {b : Bool} (h : b = true) : nI 1 = bI b := by rw [h]; rfl
theorem bI_off {b : Bool} (h : b = false) : nI 0 = bI b := by rw [h]; rfl
theorem lgc_eq (x y : Int64) : (lg_cmp x y = 0) = (x = y) := by
  unfold lg_cmp; by_cases h1 : y < x
  · rw [if_pos h1]; exact propext ⟨fun h => absurd h (by decide), fun h => by rw [h] at h1; exact absurd h1 Int64.lt_irrefl⟩
  · rw [if_neg h1]; by_cases h2 : x = y
    · rw [if_pos h2]; exact propext ⟨fun _ => h2, fun _ => rfl⟩
    · rw [if_neg h2]; exact propext ⟨fun h => absurd h (by decide), fun h => absurd h h2⟩
/-- the sum of f 0 .. f (k - 1) -/
def sI (f : Nat → Int32) : Nat → Int32
  | 0 => nI 0
  | k + 1 => sI f k + f k
def ntI (x : Int32) : Int32 := x ^^^ (-1)
def s1 (k : Nat) : Int32 := nI 1 <<< (nI k &&& 31)
def wit (v a b : Int32) : Bool := !decide (v < a) && !decide (b < v)
def bt (x : Int32) (k : Nat) : Bool := decide ((x >>> (nI k &&& 31)) &&& nI 1 = nI 1)
def on8 (x : Int32) : Int32 := sI (fun k => (x >>> (nI k &&& 31)) &&& nI 1) 8
def dotz (z : Nat → Int32) (a b : Nat) : Int32 := sI (fun p => z (a + p) * z (b + p)) 4
def edz (z : Nat → Int32) (n : Nat) : Int32 := sI (fun v => on8 (z (10 + v))) n / nI 2
set_option maxRecDepth 100000 in
set_option maxHeartbeats 4000000 in
/-- thrown(): the field -/
theorem c_X8_thrown (l : Launch) (D : va_G) (cs : Nat → ClassId) (ad : Nat → Nat) (M : Mm)  : ∀ sz : Nat, Met l yX8_thrown (.code yX8_thrown cX8_thrown 1 (some .int) :: TT) { frames := 0, cells := 0, slots := 0, locals := 0 } (va_Pc [.ref (ad 135)] (fun U9 => U9.heap.size = sz ∧ wB D cs ad (fA ad sz) M U9)) (va_Qi (fun r M2 => r = M.1 135 7 ∧ M2 = M) (wB D cs ad (fA ad sz)) (fA ad sz)) 0 0 (fA ad sz) := by
  refine st_I (by decide) (Nat.le_of_ble_eq_true rfl) (fun κ C E => ?_)
  refine r_lv (lv2 := [(0, .ref (ad 135))]) [0] rfl ?_
  refine r_aload_n C dX8_thrown_0 rfl 0 rfl ?_
  refine r_get C (Cn := RX8) (T := TX8) (N := 18) (id := 135) (by decide) inw_X8 rfl rfl 7 (by decide) rfl fl_X8_41 rfl dX8_thrown_1 ?_
  exact E 0 _ _ _ _ (Nat.le_of_ble_eq_true rfl) dX8_thrown_4 (⟨rfl, rfl⟩)
set_option maxRecDepth 100000 in
set_option maxHeartbeats 4000000 in
theorem c_X8_within (l : Launch) (D : va_G) (cs : Nat → ClassId) (ad : Nat → Nat) (M : Mm) (x a b : Int32) : ∀ sz : Nat, Met l yX8_within (.code yX8_within cX8_within 3 (some .boolean) :: TT) { frames := 0, cells := 0, slots := 0, locals := 0 } (va_Pc [.int x, .int a, .int b] (fun U9 => U9.heap.size = sz ∧ wB D cs ad (fA ad sz) M U9)) (va_Qi (fun r M2 => r = bI (wit x a b) ∧ M2 = M) (wB D cs ad (fA ad sz)) (fA ad sz)) 0 0 (fA ad sz) := by
  refine st_Z (by decide) (Nat.le_of_ble_eq_true rfl) (fun κ C E => ?_)
  refine r_lv (lv2 := [(0, .int x), (1, .int a), (2, .int b)]) [0, 1, 2] rfl ?_
  refine r_iload_n C dX8_within_0 rfl 0 rfl ?_
  refine r_iload_n C dX8_within_1 rfl 1 rfl ?_
  refine r_icmp_lt C 14 dX8_within_2 (by decide) (fun h2 => ?_) (fun h2 => ?_)
  ·
    refine r_iconst C (nI 0) dX8_within_14 (by decide) ?_
    exact E 0 _ _ _ _ (Nat.le_of_ble_eq_true rfl) dX8_within_15 rfl (⟨bI_off (by simp [wit, h2]), rfl⟩)
  ·
    refine r_iload_n C dX8_within_5 rfl 0 rfl ?_
    refine r_iload_n C dX8_within_6 rfl 2 rfl ?_
    refine r_icmp_gt C 14 dX8_within_7 (by decide) (fun h7 => ?_) (fun h7 => ?_)
    ·
      refine r_iconst C (nI 0) dX8_within_14 (by decide) ?_
      exact E 0 _ _ _ _ (Nat.le_of_ble_eq_true rfl) dX8_within_15 rfl (⟨bI_off (by simp [wit, h2, h7]), rfl⟩)
    ·
      refine r_iconst C (nI 1) dX8_within_10 (by decide) ?_
      refine r_goto C 15 dX8_within_11 (by decide) ?_
      exact E 0 _ _ _ _ (Nat.le_of_ble_eq_true rfl) dX8_within_15 rfl (⟨bI_on (by simp [wit, h2, h7]), rfl⟩)
set_option maxRecDepth 100000 in
set_option maxHeartbeats 4000000 in
theorem c_X8_has (l : Launch) (D : va_G) (cs : Nat → ClassId) (ad : Nat → Nat) (M : Mm) (x : Int32) (k : Nat) : ∀ sz : Nat, Met l yX8_has (.code yX8_has cX8_has 2 (some .boolean) :: TT) { frames := 0, cells := 0, slots := 0, locals := 0 } (va_Pc [.int x, .int (nI k)] (fun U9 => U9.heap.size = sz ∧ wB D cs ad (fA ad sz) M U9)) (va_Qi (fun r M2 => r = bI (bt x k) ∧ M2 = M) (wB D cs ad (fA ad sz)) (fA ad sz)) 0 0 (fA ad sz) := by
  refine st_Z (by decide) (Nat.le_of_ble_eq_true rfl) (fun κ C E => ?_)
  refine r_lv (lv2 := [(0, .int x), (1, .int (nI k))]) [0, 1] rfl ?_
  refine r_iload_n C dX8_has_0 rfl 0 rfl ?_
  refine r_iload_n C dX8_has_1 rfl 1 rfl ?_
  refine r_ishr C dX8_has_2 ?_
  refine r_iconst C (nI 1) dX8_has_3 (by decide) ?_
  refine r_iand C dX8_has_4 ?_
  refine r_iconst C (nI 1) dX8_has_5 (by decide) ?_
  refine r_icmp_ne C 13 dX8_has_6 (by decide) (fun h6 => ?_) (fun h6 => ?_)
  ·
    refine r_iconst C (nI 0) dX8_has_13 (by decide) ?_
    exact E 0 _ _ _ _ (Nat.le_of_ble_eq_true rfl) dX8_has_14 rfl (⟨bI_off (by simp [bt, h6]), rfl⟩)
  ·
    refine r_iconst C (nI 1) dX8_has_9 (by decide) ?_
    refine r_goto C 14 dX8_has_10 (by decide) ?_
    exact E 0 _ _ _ _ (Nat.le_of_ble_eq_true rfl) dX8_has_14 rfl (⟨bI_on (by simp [bt, h6]), rfl⟩)
set_option maxRecDepth 100000 in
set_option maxHeartbeats 4000000 in
theorem c_X8_ones (l : Launch) (D : va_G) (cs : Nat → ClassId) (ad : Nat → Nat) (M : Mm) (x : Int32) : ∀ sz : Nat, Met l yX8_ones (.code yX8_ones cX8_ones 3 (some .int) :: TT) { frames := 0, cells := 0, slots := 0, locals := 0 } (va_Pc [.int x] (fun U9 => U9.heap.size = sz ∧ wB D cs ad (fA ad sz) M U9)) (va_Qi (fun r M2 => r = on8 x ∧ M2 = M) (wB D cs ad (fA ad sz)) (fA ad sz)) 0 0 (fA ad sz) := by
  refine st_I (by decide) (Nat.le_of_ble_eq_true rfl) (fun κ C E => ?_)
  refine r_lv (lv2 := [(0, .int x)]) [0] rfl ?_
  refine r_iconst C (nI 0) dX8_ones_0 (by decide) ?_
  refine r_istore_n C [(1, .int (nI 0)), (0, .int x)] dX8_ones_1 rfl (by decide) rfl ?_
  refine r_iconst C (nI 0) dX8_ones_2 (by decide) ?_
  refine r_istore_n C [(2, .int (nI 0)), (1, .int (nI 0)), (0, .int x)] dX8_ones_3 rfl (by decide) rfl ?_
  have Lp : ∀ (f k : Nat), 8 + 1 ≤ k + f → k ≤ 8 → VV l D cs ad 3 κ 0 M 4 [(2, .int (nI k)), (1, .int (sI (fun k => (x >>> (nI k &&& 31)) &&& nI 1) k)), (0, .int x)] [] := by
    intro f
    induction f with
    | zero => intro k hk1 hk2; exact absurd hk1 (by omega)
    | succ f ih =>
      intro k hk1 hk2
      refine r_iload_n C dX8_ones_4 rfl 0 rfl ?_
      refine r_bipush C (nI 8) dX8_ones_5 (by decide) ?_
      refine r_icmpN_ge C 24 dX8_ones_7 (by decide) (by omega) (by omega) (fun h7 => ?_) (fun h7 => ?_)
      ·
        have hk9 : 8 = k := by omega
        subst hk9
        refine r_iload_n C dX8_ones_24 rfl 1 rfl ?_
        exact E 0 _ _ _ _ (Nat.le_of_ble_eq_true rfl) dX8_ones_25 (⟨rfl, rfl⟩)
      ·
        refine r_iload_n C dX8_ones_10 rfl 1 rfl ?_
        refine r_iload_n C dX8_ones_11 rfl 2 rfl ?_
        refine r_iload_n C dX8_ones_12 rfl 0 rfl ?_
        refine r_ishr C dX8_ones_13 ?_
        refine r_iconst C (nI 1) dX8_ones_14 (by decide) ?_
        refine r_iand C dX8_ones_15 ?_
        refine r_iadd C dX8_ones_16 ?_
        refine r_istore_n C [(1, .int ((sI (fun k => (x >>> (nI k &&& 31)) &&& nI 1) k) + ((x >>> ((nI k) &&& 31)) &&& (nI 1)))), (2, .int (nI k)), (0, .int x)] dX8_ones_17 rfl (by decide) rfl ?_
        refine r_iinc C (nI (k + 1)) [(2, .int (nI (k + 1))), (1, .int ((sI (fun k => (x >>> (nI k &&& 31)) &&& nI 1) k) + ((x >>> ((nI k) &&& 31)) &&& (nI 1)))), (0, .int x)] dX8_ones_18 (j := 1) rfl (inc_n k 1) (by decide) rfl ?_
        refine r_goto C 4 dX8_ones_21 (by decide) ?_
        refine r_lv (lv2 := [(2, .int (nI (k + 1))), (1, .int (sI (fun k => (x >>> (nI k &&& 31)) &&& nI 1) (k + 1))), (0, .int x)]) [0, 1, 2] rfl ?_
        exact ih (k + 1) (by omega) (by omega)
  refine r_lv (lv2 := [(2, .int (nI 0)), (1, .int (sI (fun k => (x >>> (nI k &&& 31)) &&& nI 1) 0)), (0, .int x)]) [0, 1, 2] rfl ?_
  exact Lp (8 + 1) 0 (by omega) (by omega)
set_option maxRecDepth 100000 in
set_option maxHeartbeats 4000000 in
theorem c_X8_isVertex (l : Launch) (D : va_G) (cs : Nat → ClassId) (ad : Nat → Nat) (M : Mm) (x : Int32) (n : Nat) (hn : M.1 136 0 = nI n) (hn8 : n ≤ 8) : ∀ sz : Nat, Met l yX8_isVertex (.code yX8_isVertex cX8_isVertex 2 (some .boolean) :: TT) { frames := 1, cells := 0, slots := 0, locals := 22 } (va_Pc [.ref (ad 135), .int x] (fun U9 => U9.heap.size = sz ∧ wB D cs ad (fA ad sz) M U9)) (va_Qi (fun r M2 => r = bI (wit x (nI 0) (nI n - nI 1)) ∧ M2 = M) (wB D cs ad (fA ad sz)) (fA ad sz)) 0 0 (fA ad sz) := by
  refine st_Z (by decide) (Nat.le_of_ble_eq_true rfl) (fun κ C E => ?_)
  refine r_lv (lv2 := [(0, .ref (ad 135)), (1, .int x)]) [0, 1] rfl ?_
  refine r_iload_n C dX8_isVertex_0 rfl 1 rfl ?_
  refine r_iconst C (nI 0) dX8_isVertex_1 (by decide) ?_
  refine r_aload_n C dX8_isVertex_2 rfl 0 rfl ?_
  refine r_get C (Cn := RX8) (T := TX8) (N := 18) (id := 135) (by decide) inw_X8 rfl rfl 0 (by decide) rfl fl_X8_7 rfl dX8_isVertex_3 ?_
  refine r_iconst C (nI 0) dX8_isVertex_6 (by decide) ?_
  refine r_iald C (id := 136) (n := 55) (a := 0) (by decide) rfl (by decide) (by decide) dX8_isVertex_7 ?_
  refine r_topi hn ?_
  refine r_iconst C (nI 1) dX8_isVertex_8 (by decide) ?_
  refine r_isub C dX8_isVertex_9 ?_
  refine r_pcallS_i (nA := 3) C (Nat.le_of_ble_eq_true rfl) [.int x, .int (nI 0), .int ((nI n) - (nI 1))] (c_X8_within l D cs ad M x (nI 0) ((nI n) - (nI 1)) ) (tt_S ml_X8_48 st_X8_within in_X8 co_X8_within) ⟨rfl, rfl⟩ ⟨rfl, by decide, by decide, by decide⟩ ⟨Nat.le_of_ble_eq_true rfl, Nat.le_of_ble_eq_true rfl⟩ rfl rfl (Nat.le_of_ble_eq_true rfl) dX8_isVertex_10 ?_
  exact E 0 _ _ _ _ (Nat.le_of_ble_eq_true rfl) dX8_isVertex_13 (bI_n _) (⟨rfl, rfl⟩)
set_option maxRecDepth 100000 in
set_option maxHeartbeats 4000000 in
theorem c_X8_isPlace (l : Launch) (D : va_G) (cs : Nat → ClassId) (ad : Nat → Nat) (M : Mm) (x : Int32) (d : Nat) (hd : M.1 136 1 = nI d) (hd4 : d ≤ 4) : ∀ sz : Nat, Met l yX8_isPlace (.code yX8_isPlace cX8_isPlace 2 (some .boolean) :: TT) { frames := 1, cells := 0, slots := 0, locals := 22 } (va_Pc [.ref (ad 135), .int x] (fun U9 => U9.heap.size = sz ∧ wB D cs ad (fA ad sz) M U9)) (va_Qi (fun r M2 => r = bI (wit x (nI 0) (nI d - nI 1)) ∧ M2 = M) (wB D cs ad (fA ad sz)) (fA ad sz)) 0 0 (fA ad sz) := by
  refine st_Z (by decide) (Nat.le_of_ble_eq_true rfl) (fun κ C E => ?_)
  refine r_lv (lv2 := [(0, .ref (ad 135)), (1, .int x)]) [0, 1] rfl ?_
  refine r_iload_n C dX8_isPlace_0 rfl 1 rfl ?_
  refine r_iconst C (nI 0) dX8_isPlace_1 (by decide) ?_
  refine r_aload_n C dX8_isPlace_2 rfl 0 rfl ?_
  refine r_get C (Cn := RX8) (T := TX8) (N := 18) (id := 135) (by decide) inw_X8 rfl rfl 0 (by decide) rfl fl_X8_7 rfl dX8_isPlace_3 ?_
  refine r_iconst C (nI 1) dX8_isPlace_6 (by decide) ?_
  refine r_iald C (id := 136) (n := 55) (a := 1) (by decide) rfl (by decide) (by decide) dX8_isPlace_7 ?_
  refine r_topi hd ?_
  refine r_iconst C (nI 1) dX8_isPlace_8 (by decide) ?_
  refine r_isub C dX8_isPlace_9 ?_
  refine r_pcallS_i (nA := 3) C (Nat.le_of_ble_eq_true rfl) [.int x, .int (nI 0), .int ((nI d) - (nI 1))] (c_X8_within l D cs ad M x (nI 0) ((nI d) - (nI 1)) ) (tt_S ml_X8_48 st_X8_within in_X8 co_X8_within) ⟨rfl, rfl⟩ ⟨rfl, by decide, by decide, by decide⟩ ⟨Nat.le_of_ble_eq_true rfl, Nat.le_of_ble_eq_true rfl⟩ rfl rfl (Nat.le_of_ble_eq_true rfl) dX8_isPlace_10 ?_
  exact E 0 _ _ _ _ (Nat.le_of_ble_eq_true rfl) dX8_isPlace_13 (bI_n _) (⟨rfl, rfl⟩)
set_option maxRecDepth 100000 in
set_option maxHeartbeats 4000000 in
theorem c_X8_isNumber (l : Launch) (D : va_G) (cs : Nat → ClassId) (ad : Nat → Nat) (M : Mm) (x : Int32) : ∀ sz : Nat, Met l yX8_isNumber (.code yX8_isNumber cX8_isNumber 1 (some .boolean) :: TT) { frames := 1, cells := 0, slots := 0, locals := 22 } (va_Pc [.int x] (fun U9 => U9.heap.size = sz ∧ wB D cs ad (fA ad sz) M U9)) (va_Qi (fun r M2 => r = bI (wit x (-9) (nI 9)) ∧ M2 = M) (wB D cs ad (fA ad sz)) (fA ad sz)) 0 0 (fA ad sz) := by
  refine st_Z (by decide) (Nat.le_of_ble_eq_true rfl) (fun κ C E => ?_)
  refine r_lv (lv2 := [(0, .int x)]) [0] rfl ?_
  refine r_iload_n C dX8_isNumber_0 rfl 0 rfl ?_
  refine r_bipush C ((-9)) dX8_isNumber_1 (by decide) ?_
  refine r_bipush C (nI 9) dX8_isNumber_3 (by decide) ?_
  refine r_pcallS_i (nA := 3) C (Nat.le_of_ble_eq_true rfl) [.int x, .int (-9), .int (nI 9)] (c_X8_within l D cs ad M x (-9) (nI 9) ) (tt_S ml_X8_48 st_X8_within in_X8 co_X8_within) ⟨rfl, rfl⟩ ⟨rfl, by decide, by decide, by decide⟩ ⟨Nat.le_of_ble_eq_true rfl, Nat.le_of_ble_eq_true rfl⟩ rfl rfl (Nat.le_of_ble_eq_true rfl) dX8_isNumber_5 ?_
  exact E 0 _ _ _ _ (Nat.le_of_ble_eq_true rfl) dX8_isNumber_8 (bI_n _) (⟨rfl, rfl⟩)
set_option maxRecDepth 100000 in
set_option maxHeartbeats 4000000 in
theorem c_X8_weight (l : Launch) (D : va_G) (cs : Nat → ClassId) (ad : Nat → Nat) (M : Mm) (v : Nat) (hv : v < 8) : ∀ sz : Nat, Met l yX8_weight (.code yX8_weight cX8_weight 2 (some .int) :: TT) { frames := 0, cells := 0, slots := 0, locals := 0 } (va_Pc [.ref (ad 135), .int (nI v)] (fun U9 => U9.heap.size = sz ∧ wB D cs ad (fA ad sz) M U9)) (va_Qi (fun r M2 => r = M.1 136 (2 + v) ∧ M2 = M) (wB D cs ad (fA ad sz)) (fA ad sz)) 0 0 (fA ad sz) := by
  refine st_I (by decide) (Nat.le_of_ble_eq_true rfl) (fun κ C E => ?_)
  refine r_lv (lv2 := [(0, .ref (ad 135)), (1, .int (nI v))]) [0, 1] rfl ?_
  refine r_aload_n C dX8_weight_0 rfl 0 rfl ?_
  refine r_get C (Cn := RX8) (T := TX8) (N := 18) (id := 135) (by decide) inw_X8 rfl rfl 0 (by decide) rfl fl_X8_7 rfl dX8_weight_1 ?_
  refine r_iconst C (nI 2) dX8_weight_4 (by decide) ?_
  refine r_iload_n C dX8_weight_5 rfl 1 rfl ?_
  refine r_iadd C dX8_weight_6 ?_
  refine r_topi (nI_add 2 v) ?_
  refine r_iald C (id := 136) (n := 55) (a := 2 + v) (by decide) rfl (by omega) (by decide) dX8_weight_7 ?_
  exact E 0 _ _ _ _ (Nat.le_of_ble_eq_true rfl) dX8_weight_8 (⟨rfl, rfl⟩)
set_option maxRecDepth 100000 in
set_option maxHeartbeats 4000000 in
theorem c_X8_areJoined (l : Launch) (D : va_G) (cs : Nat → ClassId) (ad : Nat → Nat) (M : Mm) (a b : Nat) (ha : a < 8) : ∀ sz : Nat, Met l yX8_areJoined (.code yX8_areJoined cX8_areJoined 3 (some .boolean) :: TT) { frames := 1, cells := 0, slots := 0, locals := 21 } (va_Pc [.ref (ad 135), .int (nI a), .int (nI b)] (fun U9 => U9.heap.size = sz ∧ wB D cs ad (fA ad sz) M U9)) (va_Qi (fun r M2 => r = bI (bt (M.1 136 (10 + a)) b) ∧ M2 = M) (wB D cs ad (fA ad sz)) (fA ad sz)) 0 0 (fA ad sz) := by
  refine st_Z (by decide) (Nat.le_of_ble_eq_true rfl) (fun κ C E => ?_)
  refine r_lv (lv2 := [(0, .ref (ad 135)), (1, .int (nI a)), (2, .int (nI b))]) [0, 1, 2] rfl ?_
  refine r_aload_n C dX8_areJoined_0 rfl 0 rfl ?_
  refine r_get C (Cn := RX8) (T := TX8) (N := 18) (id := 135) (by decide) inw_X8 rfl rfl 0 (by decide) rfl fl_X8_7 rfl dX8_areJoined_1 ?_
  refine r_bipush C (nI 10) dX8_areJoined_4 (by decide) ?_
  refine r_iload_n C dX8_areJoined_6 rfl 1 rfl ?_
  refine r_iadd C dX8_areJoined_7 ?_
  refine r_topi (nI_add 10 a) ?_
  refine r_iald C (id := 136) (n := 55) (a := 10 + a) (by decide) rfl (by omega) (by decide) dX8_areJoined_8 ?_
  refine r_iload_n C dX8_areJoined_9 rfl 2 rfl ?_
  refine r_pcallS_i (nA := 2) C (Nat.le_of_ble_eq_true rfl) [.int (M.1 136 (10 + a)), .int (nI b)] (c_X8_has l D cs ad M (M.1 136 (10 + a)) b ) (tt_S ml_X8_52 st_X8_has in_X8 co_X8_has) ⟨rfl, rfl⟩ ⟨rfl, by decide, by decide, by decide⟩ ⟨Nat.le_of_ble_eq_true rfl, Nat.le_of_ble_eq_true rfl⟩ rfl rfl (Nat.le_of_ble_eq_true rfl) dX8_areJoined_10 ?_
  exact E 0 _ _ _ _ (Nat.le_of_ble_eq_true rfl) dX8_areJoined_13 (bI_n _) (⟨rfl, rfl⟩)
set_option maxRecDepth 100000 in
set_option maxHeartbeats 4000000 in
theorem c_X8_product (l : Launch) (D : va_G) (cs : Nat → ClassId) (ad : Nat → Nat) (M : Mm) (a b : Nat) (ha : a + 4 ≤ 55) (hb : b + 4 ≤ 55) : ∀ sz : Nat, Met l yX8_product (.code yX8_product cX8_product 5 (some .int) :: TT) { frames := 0, cells := 0, slots := 0, locals := 0 } (va_Pc [.ref (ad 135), .int (nI a), .int (nI b)] (fun U9 => U9.heap.size = sz ∧ wB D cs ad (fA ad sz) M U9)) (va_Qi (fun r M2 => r = dotz (M.1 136) a b ∧ M2 = M) (wB D cs ad (fA ad sz)) (fA ad sz)) 0 0 (fA ad sz) := by
  refine st_I (by decide) (Nat.le_of_ble_eq_true rfl) (fun κ C E => ?_)
  refine r_lv (lv2 := [(0, .ref (ad 135)), (1, .int (nI a)), (2, .int (nI b))]) [0, 1, 2] rfl ?_
  refine r_iconst C (nI 0) dX8_product_0 (by decide) ?_
  refine r_istore_n C [(3, .int (nI 0)), (0, .ref (ad 135)), (1, .int (nI a)), (2, .int (nI b))] dX8_product_1 rfl (by decide) rfl ?_
  refine r_iconst C (nI 0) dX8_product_2 (by decide) ?_
  refine r_istore C [(4, .int (nI 0)), (3, .int (nI 0)), (0, .ref (ad 135)), (1, .int (nI a)), (2, .int (nI b))] dX8_product_3 (by decide) rfl ?_
  have Lp : ∀ (f k : Nat), 4 + 1 ≤ k + f → k ≤ 4 → VV l D cs ad 5 κ 0 M 5 [(4, .int (nI k)), (3, .int (sI (fun p => M.1 136 (a + p) * M.1 136 (b + p)) k)), (0, .ref (ad 135)), (1, .int (nI a)), (2, .int (nI b))] [] := by
    intro f
    induction f with
    | zero => intro k hk1 hk2; exact absurd hk1 (by omega)
    | succ f ih =>
      intro k hk1 hk2
      refine r_iload C dX8_product_5 0 rfl ?_
      refine r_iconst C (nI 4) dX8_product_7 (by decide) ?_
      refine r_icmpN_ge C 39 dX8_product_8 (by decide) (by omega) (by omega) (fun h8 => ?_) (fun h8 => ?_)
      ·
        have hk9 : 4 = k := by omega
        subst hk9
        refine r_iload_n C dX8_product_39 rfl 1 rfl ?_
        exact E 0 _ _ _ _ (Nat.le_of_ble_eq_true rfl) dX8_product_40 (⟨rfl, rfl⟩)
      ·
        refine r_iload_n C dX8_product_11 rfl 1 rfl ?_
        refine r_aload_n C dX8_product_12 rfl 2 rfl ?_
        refine r_get C (Cn := RX8) (T := TX8) (N := 18) (id := 135) (by decide) inw_X8 rfl rfl 0 (by decide) rfl fl_X8_7 rfl dX8_product_13 ?_
        refine r_iload_n C dX8_product_16 rfl 3 rfl ?_
        refine r_iload C dX8_product_17 0 rfl ?_
        refine r_iadd C dX8_product_19 ?_
        refine r_topi (nI_add a k) ?_
        refine r_iald C (id := 136) (n := 55) (a := a + k) (by decide) rfl (by omega) (by decide) dX8_product_20 ?_
        refine r_aload_n C dX8_product_21 rfl 2 rfl ?_
        refine r_get C (Cn := RX8) (T := TX8) (N := 18) (id := 135) (by decide) inw_X8 rfl rfl 0 (by decide) rfl fl_X8_7 rfl dX8_product_22 ?_
        refine r_iload_n C dX8_product_25 rfl 4 rfl ?_
        refine r_iload C dX8_product_26 0 rfl ?_
        refine r_iadd C dX8_product_28 ?_
        refine r_topi (nI_add b k) ?_
        refine r_iald C (id := 136) (n := 55) (a := b + k) (by decide) rfl (by omega) (by decide) dX8_product_29 ?_
        refine r_imul C dX8_product_30 ?_
        refine r_iadd C dX8_product_31 ?_
        refine r_istore_n C [(3, .int ((sI (fun p => M.1 136 (a + p) * M.1 136 (b + p)) k) + ((M.1 136 (a + k)) * (M.1 136 (b + k))))), (4, .int (nI k)), (0, .ref (ad 135)), (1, .int (nI a)), (2, .int (nI b))] dX8_product_32 rfl (by decide) rfl ?_
        refine r_iinc C (nI (k + 1)) [(4, .int (nI (k + 1))), (3, .int ((sI (fun p => M.1 136 (a + p) * M.1 136 (b + p)) k) + ((M.1 136 (a + k)) * (M.1 136 (b + k))))), (0, .ref (ad 135)), (1, .int (nI a)), (2, .int (nI b))] dX8_product_33 (j := 1) rfl (inc_n k 1) (by decide) rfl ?_
        refine r_goto C 5 dX8_product_36 (by decide) ?_
        refine r_lv (lv2 := [(4, .int (nI (k + 1))), (3, .int (sI (fun p => M.1 136 (a + p) * M.1 136 (b + p)) (k + 1))), (0, .ref (ad 135)), (1, .int (nI a)), (2, .int (nI b))]) [0, 1, 2, 3, 4] rfl ?_
        exact ih (k + 1) (by omega) (by omega)
  refine r_lv (lv2 := [(4, .int (nI 0)), (3, .int (sI (fun p => M.1 136 (a + p) * M.1 136 (b + p)) 0)), (0, .ref (ad 135)), (1, .int (nI a)), (2, .int (nI b))]) [0, 1, 2, 3, 4] rfl ?_
  exact Lp (4 + 1) 0 (by omega) (by omega)
set_option maxRecDepth 100000 in
set_option maxHeartbeats 4000000 in
theorem c_X8_labelAt (l : Launch) (D : va_G) (cs : Nat → ClassId) (ad : Nat → Nat) (M : Mm) (v : Nat) : ∀ sz : Nat, Met l yX8_labelAt (.code yX8_labelAt cX8_labelAt 1 (some .int) :: TT) { frames := 0, cells := 0, slots := 0, locals := 0 } (va_Pc [.int (nI v)] (fun U9 => U9.heap.size = sz ∧ wB D cs ad (fA ad sz) M U9)) (va_Qi (fun r M2 => r = nI (18 + 4 * v) ∧ M2 = M) (wB D cs ad (fA ad sz)) (fA ad sz)) 0 0 (fA ad sz) := by
  refine st_I (by decide) (Nat.le_of_ble_eq_true rfl) (fun κ C E => ?_)
  refine r_lv (lv2 := [(0, .int (nI v))]) [0] rfl ?_
  refine r_bipush C (nI 18) dX8_labelAt_0 (by decide) ?_
  refine r_iconst C (nI 4) dX8_labelAt_2 (by decide) ?_
  refine r_iload_n C dX8_labelAt_3 rfl 0 rfl ?_
  refine r_imul C dX8_labelAt_4 ?_
  refine r_topi (pk_mul 4 v) ?_
  refine r_iadd C dX8_labelAt_5 ?_
  refine r_topi (nI_add 18 (4 * v)) ?_
  exact E 0 _ _ _ _ (Nat.le_of_ble_eq_true rfl) dX8_labelAt_6 (⟨rfl, rfl⟩)
set_option maxRecDepth 100000 in
set_option maxHeartbeats 4000000 in
theorem c_X8_byHandle (l : Launch) (D : va_G) (cs : Nat → ClassId) (ad : Nat → Nat) (M : Mm) (v : Nat) (hv : v < 8) : ∀ sz : Nat, Met l yX8_byHandle (.code yX8_byHandle cX8_byHandle 2 (some .int) :: TT) { frames := 1, cells := 0, slots := 0, locals := 24 } (va_Pc [.ref (ad 135), .int (nI v)] (fun U9 => U9.heap.size = sz ∧ wB D cs ad (fA ad sz) M U9)) (va_Qi (fun r M2 => r = dotz (M.1 136) 50 (18 + 4 * v) ∧ M2 = M) (wB D cs ad (fA ad sz)) (fA ad sz)) 0 0 (fA ad sz) := by
  refine st_I (by decide) (Nat.le_of_ble_eq_true rfl) (fun κ C E => ?_)
  refine r_lv (lv2 := [(0, .ref (ad 135)), (1, .int (nI v))]) [0, 1] rfl ?_
  refine r_aload_n C dX8_byHandle_0 rfl 0 rfl ?_
  refine r_bipush C (nI 50) dX8_byHandle_1 (by decide) ?_
  refine r_iload_n C dX8_byHandle_3 rfl 1 rfl ?_
  refine r_pcallS_i (nA := 1) C (Nat.le_of_ble_eq_true rfl) [.int (nI v)] (c_X8_labelAt l D cs ad M v ) (tt_S ml_X8_56 st_X8_labelAt in_X8 co_X8_labelAt) ⟨rfl, rfl⟩ ⟨rfl, by decide, by decide, by decide⟩ ⟨Nat.le_of_ble_eq_true rfl, Nat.le_of_ble_eq_true rfl⟩ rfl rfl (Nat.le_of_ble_eq_true rfl) dX8_byHandle_4 ?_
  refine r_pcallV_i (nA := 2) C (Nat.le_of_ble_eq_true rfl) [.int (nI 50), .int (nI (18 + 4 * v))] (c_X8_product l D cs ad M 50 (18 + 4 * v) (by omega) (by omega)) (tt_V ml_X8_60 im_X8_product se_X8_product in_X8 co_X8_product) ⟨rfl, rfl⟩ ⟨rfl, by decide, by decide, by decide⟩ ⟨Nat.le_of_ble_eq_true rfl, Nat.le_of_ble_eq_true rfl⟩ (by decide) rfl rfl rfl rfl rfl (Nat.le_of_ble_eq_true rfl) dX8_byHandle_7 ?_
  exact E 0 _ _ _ _ (Nat.le_of_ble_eq_true rfl) dX8_byHandle_10 (⟨rfl, rfl⟩)
set_option maxRecDepth 100000 in
set_option maxHeartbeats 4000000 in
theorem c_X8_edges (l : Launch) (D : va_G) (cs : Nat → ClassId) (ad : Nat → Nat) (M : Mm) (n : Nat) (hn : M.1 136 0 = nI n) (hn8 : n ≤ 8) : ∀ sz : Nat, Met l yX8_edges (.code yX8_edges cX8_edges 3 (some .int) :: TT) { frames := 1, cells := 0, slots := 0, locals := 22 } (va_Pc [.ref (ad 135)] (fun U9 => U9.heap.size = sz ∧ wB D cs ad (fA ad sz) M U9)) (va_Qi (fun r M2 => r = edz (M.1 136) n ∧ M2 = M) (wB D cs ad (fA ad sz)) (fA ad sz)) 0 0 (fA ad sz) := by
  refine st_I (by decide) (Nat.le_of_ble_eq_true rfl) (fun κ C E => ?_)
  refine r_lv (lv2 := [(0, .ref (ad 135))]) [0] rfl ?_
  refine r_iconst C (nI 0) dX8_edges_0 (by decide) ?_
  refine r_istore_n C [(1, .int (nI 0)), (0, .ref (ad 135))] dX8_edges_1 rfl (by decide) rfl ?_
  refine r_iconst C (nI 0) dX8_edges_2 (by decide) ?_
  refine r_istore_n C [(2, .int (nI 0)), (1, .int (nI 0)), (0, .ref (ad 135))] dX8_edges_3 rfl (by decide) rfl ?_
  have Lp : ∀ (f k : Nat), n + 1 ≤ k + f → k ≤ n → VV l D cs ad 3 κ 0 M 4 [(2, .int (nI k)), (1, .int (sI (fun v => on8 (M.1 136 (10 + v))) k)), (0, .ref (ad 135))] [] := by
    intro f
    induction f with
    | zero => intro k hk1 hk2; exact absurd hk1 (by omega)
    | succ f ih =>
      intro k hk1 hk2
      refine r_iload_n C dX8_edges_4 rfl 0 rfl ?_
      refine r_aload_n C dX8_edges_5 rfl 2 rfl ?_
      refine r_get C (Cn := RX8) (T := TX8) (N := 18) (id := 135) (by decide) inw_X8 rfl rfl 0 (by decide) rfl fl_X8_7 rfl dX8_edges_6 ?_
      refine r_iconst C (nI 0) dX8_edges_9 (by decide) ?_
      refine r_iald C (id := 136) (n := 55) (a := 0) (by decide) rfl (by decide) (by decide) dX8_edges_10 ?_
      refine r_topi hn ?_
      refine r_icmpN_ge C 35 dX8_edges_11 (by decide) (by omega) (by omega) (fun h11 => ?_) (fun h11 => ?_)
      ·
        have hk9 : n = k := by omega
        subst hk9
        refine r_iload_n C dX8_edges_35 rfl 1 rfl ?_
        refine r_iconst C (nI 2) dX8_edges_36 (by decide) ?_
        refine r_idiv C dX8_edges_37 (by decide) ?_
        exact E 0 _ _ _ _ (Nat.le_of_ble_eq_true rfl) dX8_edges_38 (⟨rfl, rfl⟩)
      ·
        refine r_iload_n C dX8_edges_14 rfl 1 rfl ?_
        refine r_aload_n C dX8_edges_15 rfl 2 rfl ?_
        refine r_get C (Cn := RX8) (T := TX8) (N := 18) (id := 135) (by decide) inw_X8 rfl rfl 0 (by decide) rfl fl_X8_7 rfl dX8_edges_16 ?_
        refine r_bipush C (nI 10) dX8_edges_19 (by decide) ?_
        refine r_iload_n C dX8_edges_21 rfl 0 rfl ?_
        refine r_iadd C dX8_edges_22 ?_
        refine r_topi (nI_add 10 k) ?_
        refine r_iald C (id := 136) (n := 55) (a := 10 + k) (by decide) rfl (by omega) (by decide) dX8_edges_23 ?_
        refine r_pcallS_i (nA := 1) C (Nat.le_of_ble_eq_true rfl) [.int (M.1 136 (10 + k))] (c_X8_ones l D cs ad M (M.1 136 (10 + k)) ) (tt_S ml_X8_64 st_X8_ones in_X8 co_X8_ones) ⟨rfl, rfl⟩ ⟨rfl, by decide, by decide, by decide⟩ ⟨Nat.le_of_ble_eq_true rfl, Nat.le_of_ble_eq_true rfl⟩ rfl rfl (Nat.le_of_ble_eq_true rfl) dX8_edges_24 ?_
        refine r_iadd C dX8_edges_27 ?_
        refine r_istore_n C [(1, .int ((sI (fun v => on8 (M.1 136 (10 + v))) k) + (on8 (M.1 136 (10 + k))))), (2, .int (nI k)), (0, .ref (ad 135))] dX8_edges_28 rfl (by decide) rfl ?_
        refine r_iinc C (nI (k + 1)) [(2, .int (nI (k + 1))), (1, .int ((sI (fun v => on8 (M.1 136 (10 + v))) k) + (on8 (M.1 136 (10 + k))))), (0, .ref (ad 135))] dX8_edges_29 (j := 1) rfl (inc_n k 1) (by decide) rfl ?_
        refine r_goto C 4 dX8_edges_32 (by decide) ?_
        refine r_lv (lv2 := [(2, .int (nI (k + 1))), (1, .int (sI (fun v => on8 (M.1 136 (10 + v))) (k + 1))), (0, .ref (ad 135))]) [0, 1, 2] rfl ?_
        exact ih (k + 1) (by omega) (by omega)
  refine r_lv (lv2 := [(2, .int (nI 0)), (1, .int (sI (fun v => on8 (M.1 136 (10 + v))) 0)), (0, .ref (ad 135))]) [0, 1, 2] rfl ?_
  exact Lp (n + 1) 0 (by omega) (by omega)
