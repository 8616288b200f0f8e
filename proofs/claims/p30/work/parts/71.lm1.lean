/-! ===== the law's small methods (written by wip/p30/gen/lm1.py) ===== -/
theorem ushr_1 (x : Int32) : ∃ m, m < 2 ^ 31 ∧ (x.toUInt32 >>> ((nI 1).toUInt32 &&& Int32.toUInt32 31)).toInt32 = nI m := by
  refine ⟨((x.toUInt32 >>> ((nI 1).toUInt32 &&& Int32.toUInt32 31)).toInt32).toBitVec.toNat, ?_, x_nI _⟩
  have e : ((x.toUInt32 >>> ((nI 1).toUInt32 &&& Int32.toUInt32 31)).toInt32).toBitVec = x.toBitVec >>> 1 := rfl
  rw [e, BitVec.toNat_ushiftRight, Nat.shiftRight_eq_div_pow]
  have := x.toBitVec.isLt
  omega
/-- the law's rows show the row z -/
def LR (M : Mm) (z : Nat → Int32) (n d : Nat) (e : Nat → Nat → Bool) : Prop := M.1 135 0 = nI n ∧ M.1 135 1 = nI d ∧ (∀ v, v < n → M.1 136 v = z (2 + v)) ∧ (∀ a b, a < n → b < n → M.1 137 (4 * a + b) = bI (e a b)) ∧ (∀ v p, v < n → p < 4 → M.1 138 (4 * v + p) = z (18 + 4 * v + p)) ∧ ∀ p, p < 4 → M.1 139 p = z (50 + p)
def pdL (f g : Nat → Int32) (i j : Nat) : Int32 := sI (fun k => f (4 * i + k) * g (4 * j + k)) 4
theorem pL_ll {M : Mm} {z : Nat → Int32} {n d : Nat} {e : Nat → Nat → Bool} (h : LR M z n d e) {a b : Nat} (ha : a < n) (hb : b < n) : pdL (M.1 138) (M.1 138) a b = dotz z (18 + 4 * a) (18 + 4 * b) := sI_cg (fun k hk => by rw [h.2.2.2.2.1 a k ha hk, h.2.2.2.2.1 b k hb hk])
theorem pL_lh {M : Mm} {z : Nat → Int32} {n d : Nat} {e : Nat → Nat → Bool} (h : LR M z n d e) {a : Nat} (ha : a < n) : pdL (M.1 138) (M.1 139) a 0 = dotz z 50 (18 + 4 * a) := sI_cg (fun k hk => by rw [h.2.2.2.2.1 a k ha hk, show 4 * 0 + k = k by omega, h.2.2.2.2.2 k hk]; exact Int32.mul_comm _ _)
theorem pL_hh {M : Mm} {z : Nat → Int32} {n d : Nat} {e : Nat → Nat → Bool} (h : LR M z n d e) : pdL (M.1 139) (M.1 139) 0 0 = dotz z 50 50 := sI_cg (fun k hk => by rw [show 4 * 0 + k = k by omega, h.2.2.2.2.2 k hk])
/-- no pair of joined ones of the first v vertices of the set is left out -/
def cqE (e : Nat → Nat → Bool) (m v : Nat) : Prop := ∀ a b, a < b → b < v → m.testBit a = true → m.testBit b = true → e b a = true
theorem cq_s {e : Nat → Nat → Bool} {m v : Nat} (h : cqE e m v) (h2 : ∀ c, c < v → m.testBit c = true → m.testBit v = true → e v c = true) : cqE e m (v + 1) := fun a b hab hb h3 h4 => by
  rcases Nat.lt_or_eq_of_le (Nat.le_of_lt_succ hb) with q | q
  · exact h a b hab q h3 h4
  · subst q; exact h2 a hab h3 h4
theorem bt_on {m k : Nat} (hm : m < 256) (hk : k < 8) (h : (nI m >>> (nI k &&& 31)) &&& nI 1 = nI 1) : m.testBit k = true := by
  rw [← bt_tb hm hk]; exact decide_eq_true h
theorem bt_off {m k : Nat} (hm : m < 256) (hk : k < 8) (h : ¬ (nI m >>> (nI k &&& 31)) &&& nI 1 = nI 1) : m.testBit k = false := by
  rw [← bt_tb hm hk]; exact decide_eq_false h
theorem cqE_P {z : Nat → Int32} {n : Nat} {e : Nat → Nat → Bool} {mk : Nat → Nat} (hn : n ≤ 8) (he : eb z n e) (hk : gk z n mk) (m : Nat) : cqE e m n ↔ cqP mk m n := by
  have key : ∀ a b, a < n → b < n → (mk b).testBit a = e b a := fun a b ha hb => by
    rw [← bt_tb (n2_256 hn (hk b hb).1) (show a < 8 by omega), ← (hk b hb).2, eb_bt hn he hb ha]
  constructor
  · intro h a b hab hb h3 h4
    rw [key a b (by omega) hb]; exact h a b hab hb h3 h4
  · intro h a b hab hb h3 h4
    rw [← key a b (by omega) hb]; exact h a b hab hb h3 h4
section CL9
variable {z : Nat → Int32} {n : Nat} {e : Nat → Nat → Bool} {mk wt : Nat → Nat} {m : Nat}
theorem cl_y (hn : n ≤ 8) (he : eb z n e) (hk : gk z n mk) (hw : gw z n wt) (hm : m < 2 ^ n) (h : cqE e m n) : nI 1 = bI (!decide (clW z n m = -1)) := by
  rcases clW_N hn hk hw (Nat.le_refl n) hm with ⟨h1, h2⟩ | ⟨h1, h2⟩
  · have := m1_ne (a := wsN wt m n) (by have := wsN_le (m := m) (fun v hv => (hw v hv).2) (Nat.le_refl n); omega)
    rw [h2, decide_eq_false this]; rfl
  · exact absurd ((cqE_P hn he hk m).mp h) h1
theorem cl_n (hn : n ≤ 8) (he : eb z n e) (hk : gk z n mk) (hw : gw z n wt) (hm : m < 2 ^ n) (h : ¬ cqE e m n) : nI 0 = bI (!decide (clW z n m = -1)) := by
  rcases clW_N hn hk hw (Nat.le_refl n) hm with ⟨h1, h2⟩ | ⟨h1, h2⟩
  · exact absurd ((cqE_P hn he hk m).mpr h1) h
  · rw [h2]; rfl
end CL9
/-- the color that a code gives a vertex -/
def cda (c v : Nat) : Nat := c / 4 ^ (3 - v) % 4
theorem cda_e {c v : Nat} (hc : c < 256) (hv : v < 4) : (nI c >>> (nI (6 - (2 * v)) &&& 31)) &&& nI 3 = nI (cda c v) := by
  have h : ∀ c : Fin 256, ∀ v : Fin 4, (nI c.val >>> (nI (6 - (2 * v.val)) &&& 31)) &&& nI 3 = nI (cda c.val v.val) := by decide +kernel
  exact h ⟨c, hc⟩ ⟨v, hv⟩
theorem mf_s {z : Nat → Int32} {n a b : Nat} (hb : b < 8) (h : ∀ k, k < 8 * a + b → mfp z k = false) (h2 : mfp z (8 * a + b) = false) : ∀ k, k < 8 * a + (b + 1) → mfp z k = false := fun k hk => by
  rcases Nat.lt_or_eq_of_le (show k ≤ 8 * a + b by omega) with q | q
  · exact h k q
  · rw [q]; exact h2
theorem mf_0 {z : Nat → Int32} {a : Nat} (ha : a < 4) (h : ∀ k, k < 8 * a → mfp z k = false) : ∀ k, k < 8 * a + (a + 1) → mfp z k = false := fun k hk => by
  rcases Nat.lt_or_ge k (8 * a) with q | q
  · exact h k q
  · obtain ⟨b, rfl⟩ : ∃ b, k = 8 * a + b := ⟨k - 8 * a, by omega⟩
    rw [mfp_uf (by omega), decide_eq_true (show b ≤ a by omega)]; rfl
theorem mf_e {z : Nat → Int32} {n a : Nat} {mk : Nat → Nat} (hn : n ≤ 8) (hk : gk z n mk) (ha : a < n) (h : ∀ k, k < 8 * a + n → mfp z k = false) : ∀ k, k < 8 * (a + 1) → mfp z k = false := fun k hk9 => by
  rcases Nat.lt_or_ge k (8 * a + n) with q | q
  · exact h k q
  · obtain ⟨b, rfl⟩ : ∃ b, k = 8 * a + b := ⟨k - 8 * a, by omega⟩
    rw [mfp_uf (by omega), mfp_hi hn hk ha (show n ≤ b by omega) (by omega), Bool.and_false]
theorem mf_off {z : Nat → Int32} {n a b : Nat} {e : Nat → Nat → Bool} (hn : n ≤ 8) (he : eb z n e) (ha : a < n) (hb : b < n) (h : e a b = false ∨ dotz z (18 + 4 * a) (18 + 4 * b) = 0) : mfp z (8 * a + b) = false := by
  rw [mfp_uf (by omega)]; unfold uf
  rw [eb_bt hn he ha hb]
  rcases h with q | q
  · rw [q]; simp
  · rw [decide_eq_true q]; simp
theorem mf_on {z : Nat → Int32} {n a b : Nat} {e : Nat → Nat → Bool} (hn : n ≤ 8) (he : eb z n e) (ha : a < n) (hb : b < n) (hab : a < b) (h : e a b = true) (h2 : ¬ dotz z (18 + 4 * a) (18 + 4 * b) = 0) : mfp z (8 * a + b) = true := by
  rw [mfp_uf (by omega)]; unfold uf
  rw [eb_bt hn he ha hb, h, decide_eq_false h2, decide_eq_false (show ¬ b ≤ a by omega)]; rfl
theorem up_y {z : Nat → Int32} {v : Nat} (h : ¬ z (2 + v) ≤ 0) (h2 : dotz z 50 (18 + 4 * v) = 0) : upr z v = true := by unfold upr; rw [decide_eq_false h, decide_eq_true h2]; rfl
theorem up_n {z : Nat → Int32} {v : Nat} (h : z (2 + v) ≤ 0 ∨ ¬ dotz z 50 (18 + 4 * v) = 0) : upr z v = false := by
  unfold upr
  rcases h with h | h
  · rw [decide_eq_true h]; rfl
  · rw [decide_eq_false h, Bool.and_false]
theorem b1_t {b : Bool} (h : bI b = nI 1) : b = true := by cases b <;> first | rfl | exact absurd h (by decide)
theorem b1_f {b : Bool} (h : ¬ bI b = nI 1) : b = false := by cases b <;> first | rfl | exact absurd rfl h

set_option maxRecDepth 100000 in
set_option maxHeartbeats 4000000 in
theorem c_L_at (l : Launch) (D : va_G) (cs : Nat → ClassId) (ad : Nat → Nat) (M : Mm) (x : Int32) (n : Nat) (hn1 : 1 ≤ n) (hn : n < 2 ^ 31) : ∀ sz : Nat, Met l yL_at (.code yL_at cL_at 2 (some .int) :: TT) { frames := 0, cells := 0, slots := 0, locals := 0 } (va_Pc [.int x, .int (nI n)] (fun U9 => U9.heap.size = sz ∧ wB D cs ad (fA ad sz) M U9)) (va_Qi (fun r M2 => (∃ m, m < n ∧ r = nI m) ∧ M2 = M) (wB D cs ad (fA ad sz)) (fA ad sz)) 0 0 (fA ad sz) := by
  refine st_I (by decide) (Nat.le_of_ble_eq_true rfl) (fun κ C E => ?_)
  refine r_lv (lv2 := [(0, .int x), (1, .int (nI n))]) [0, 1] rfl ?_
  refine r_iload_n C dL_at_0 rfl 0 rfl ?_
  refine r_iconst C (nI 1) dL_at_1 (by decide) ?_
  refine r_iushr C dL_at_2 ?_
  obtain ⟨m9, hm9, em9⟩ := ushr_1 x
  refine r_topi (w := nI m9) em9 ?_
  refine r_iload_n C dL_at_3 rfl 1 rfl ?_
  refine r_irem C dL_at_4 (nI_ne0 (by omega) (by omega)) ?_
  refine r_topi (pk_rem (a := m9) (d := n) (by omega) (by omega) (by omega)) ?_
  exact E 0 _ _ _ _ (Nat.le_of_ble_eq_true rfl) dL_at_5 (⟨⟨m9 % n, Nat.mod_lt _ (by omega), rfl⟩, rfl⟩)
set_option maxRecDepth 100000 in
set_option maxHeartbeats 4000000 in
theorem c_L_prod_ll (l : Launch) (D : va_G) (cs : Nat → ClassId) (ad : Nat → Nat) (M : Mm) (i : Nat) (hi : 4 * i + 4 ≤ 20) (j : Nat) (hj : 4 * j + 4 ≤ 20) : ∀ sz : Nat, Met l yL_product (.code yL_product cL_product 6 (some .int) :: TT) { frames := 0, cells := 0, slots := 0, locals := 0 } (va_Pc [.ref (ad 138), .int (nI i), .ref (ad 138), .int (nI j)] (fun U9 => U9.heap.size = sz ∧ wB D cs ad (fA ad sz) M U9)) (va_Qi (fun r M2 => r = pdL (M.1 138) (M.1 138) i j ∧ M2 = M) (wB D cs ad (fA ad sz)) (fA ad sz)) 0 0 (fA ad sz) := by
  refine st_I (by decide) (Nat.le_of_ble_eq_true rfl) (fun κ C E => ?_)
  refine r_lv (lv2 := [(0, .ref (ad 138)), (1, .int (nI i)), (2, .ref (ad 138)), (3, .int (nI j))]) [0, 1, 2, 3] rfl ?_
  refine r_iconst C (nI 0) dL_product_0 (by decide) ?_
  refine r_istore C [(4, .int (nI 0)), (0, .ref (ad 138)), (1, .int (nI i)), (2, .ref (ad 138)), (3, .int (nI j))] dL_product_1 (by decide) rfl ?_
  refine r_iconst C (nI 0) dL_product_3 (by decide) ?_
  refine r_istore C [(5, .int (nI 0)), (4, .int (nI 0)), (0, .ref (ad 138)), (1, .int (nI i)), (2, .ref (ad 138)), (3, .int (nI j))] dL_product_4 (by decide) rfl ?_
  have Lp : ∀ (f k : Nat), 4 + 1 ≤ k + f → k ≤ 4 → VV l D cs ad 6 κ 0 M 6 [(5, .int (nI k)), (4, .int (sI (fun k => M.1 138 (4 * i + k) * M.1 138 (4 * j + k)) k)), (0, .ref (ad 138)), (1, .int (nI i)), (2, .ref (ad 138)), (3, .int (nI j))] [] := by
    intro f
    induction f with
    | zero => intro k hk1 hk2; exact absurd hk1 (by omega)
    | succ f ih =>
      intro k hk1 hk2
      refine r_iload C dL_product_6 0 rfl ?_
      refine r_iconst C (nI 4) dL_product_8 (by decide) ?_
      refine r_icmpN_ge C 40 dL_product_9 (by decide) (by omega) (by omega) (fun h9 => ?_) (fun h9 => ?_)
      ·
        have hk9 : 4 = k := by omega
        subst hk9
        refine r_iload C dL_product_40 1 rfl ?_
        exact E 0 _ _ _ _ (Nat.le_of_ble_eq_true rfl) dL_product_42 (⟨rfl, rfl⟩)
      ·
        refine r_iload C dL_product_12 1 rfl ?_
        refine r_aload_n C dL_product_14 rfl 2 rfl ?_
        refine r_iconst C (nI 4) dL_product_15 (by decide) ?_
        refine r_iload_n C dL_product_16 rfl 3 rfl ?_
        refine r_imul C dL_product_17 ?_
        refine r_topi (pk_mul 4 i) ?_
        refine r_iload C dL_product_18 0 rfl ?_
        refine r_iadd C dL_product_20 ?_
        refine r_topi (nI_add (4 * i) k) ?_
        refine r_iald C (id := 138) (n := 20) (a := (4 * i) + k) (by decide) rfl (by omega) (by decide) dL_product_21 ?_
        refine r_aload_n C dL_product_22 rfl 4 rfl ?_
        refine r_iconst C (nI 4) dL_product_23 (by decide) ?_
        refine r_iload_n C dL_product_24 rfl 5 rfl ?_
        refine r_imul C dL_product_25 ?_
        refine r_topi (pk_mul 4 j) ?_
        refine r_iload C dL_product_26 0 rfl ?_
        refine r_iadd C dL_product_28 ?_
        refine r_topi (nI_add (4 * j) k) ?_
        refine r_iald C (id := 138) (n := 20) (a := (4 * j) + k) (by decide) rfl (by omega) (by decide) dL_product_29 ?_
        refine r_imul C dL_product_30 ?_
        refine r_iadd C dL_product_31 ?_
        refine r_istore C [(4, .int ((sI (fun k => M.1 138 (4 * i + k) * M.1 138 (4 * j + k)) k) + ((M.1 138 ((4 * i) + k)) * (M.1 138 ((4 * j) + k))))), (5, .int (nI k)), (0, .ref (ad 138)), (1, .int (nI i)), (2, .ref (ad 138)), (3, .int (nI j))] dL_product_32 (by decide) rfl ?_
        refine r_iinc C (nI (k + 1)) [(5, .int (nI (k + 1))), (4, .int ((sI (fun k => M.1 138 (4 * i + k) * M.1 138 (4 * j + k)) k) + ((M.1 138 ((4 * i) + k)) * (M.1 138 ((4 * j) + k))))), (0, .ref (ad 138)), (1, .int (nI i)), (2, .ref (ad 138)), (3, .int (nI j))] dL_product_34 (j := 1) rfl (inc_n k 1) (by decide) rfl ?_
        refine r_goto C 6 dL_product_37 (by decide) ?_
        refine r_lv (lv2 := [(5, .int (nI (k + 1))), (4, .int (sI (fun k => M.1 138 (4 * i + k) * M.1 138 (4 * j + k)) (k + 1))), (0, .ref (ad 138)), (1, .int (nI i)), (2, .ref (ad 138)), (3, .int (nI j))]) [0, 1, 2, 3, 4, 5] rfl ?_
        refine r_lve (lv2 := [(5, .int (nI (k + 1))), (4, .int (sI (fun k => M.1 138 (4 * i + k) * M.1 138 (4 * j + k)) (k + 1))), (0, .ref (ad 138)), (1, .int (nI i)), (2, .ref (ad 138)), (3, .int (nI j))]) rfl ?_
        exact ih (k + 1) (by omega) (by omega)
  refine r_lv (lv2 := [(5, .int (nI 0)), (4, .int (sI (fun k => M.1 138 (4 * i + k) * M.1 138 (4 * j + k)) 0)), (0, .ref (ad 138)), (1, .int (nI i)), (2, .ref (ad 138)), (3, .int (nI j))]) [0, 1, 2, 3, 4, 5] rfl ?_
  exact Lp (4 + 1) 0 (by omega) (by omega)
set_option maxRecDepth 100000 in
set_option maxHeartbeats 4000000 in
theorem c_L_prod_lh (l : Launch) (D : va_G) (cs : Nat → ClassId) (ad : Nat → Nat) (M : Mm) (i : Nat) (hi : 4 * i + 4 ≤ 20)  : ∀ sz : Nat, Met l yL_product (.code yL_product cL_product 6 (some .int) :: TT) { frames := 0, cells := 0, slots := 0, locals := 0 } (va_Pc [.ref (ad 138), .int (nI i), .ref (ad 139), .int (nI 0)] (fun U9 => U9.heap.size = sz ∧ wB D cs ad (fA ad sz) M U9)) (va_Qi (fun r M2 => r = pdL (M.1 138) (M.1 139) i 0 ∧ M2 = M) (wB D cs ad (fA ad sz)) (fA ad sz)) 0 0 (fA ad sz) := by
  refine st_I (by decide) (Nat.le_of_ble_eq_true rfl) (fun κ C E => ?_)
  refine r_lv (lv2 := [(0, .ref (ad 138)), (1, .int (nI i)), (2, .ref (ad 139)), (3, .int (nI 0))]) [0, 1, 2, 3] rfl ?_
  refine r_iconst C (nI 0) dL_product_0 (by decide) ?_
  refine r_istore C [(4, .int (nI 0)), (0, .ref (ad 138)), (1, .int (nI i)), (2, .ref (ad 139)), (3, .int (nI 0))] dL_product_1 (by decide) rfl ?_
  refine r_iconst C (nI 0) dL_product_3 (by decide) ?_
  refine r_istore C [(5, .int (nI 0)), (4, .int (nI 0)), (0, .ref (ad 138)), (1, .int (nI i)), (2, .ref (ad 139)), (3, .int (nI 0))] dL_product_4 (by decide) rfl ?_
  have Lp : ∀ (f k : Nat), 4 + 1 ≤ k + f → k ≤ 4 → VV l D cs ad 6 κ 0 M 6 [(5, .int (nI k)), (4, .int (sI (fun k => M.1 138 (4 * i + k) * M.1 139 (4 * 0 + k)) k)), (0, .ref (ad 138)), (1, .int (nI i)), (2, .ref (ad 139)), (3, .int (nI 0))] [] := by
    intro f
    induction f with
    | zero => intro k hk1 hk2; exact absurd hk1 (by omega)
    | succ f ih =>
      intro k hk1 hk2
      refine r_iload C dL_product_6 0 rfl ?_
      refine r_iconst C (nI 4) dL_product_8 (by decide) ?_
      refine r_icmpN_ge C 40 dL_product_9 (by decide) (by omega) (by omega) (fun h9 => ?_) (fun h9 => ?_)
      ·
        have hk9 : 4 = k := by omega
        subst hk9
        refine r_iload C dL_product_40 1 rfl ?_
        exact E 0 _ _ _ _ (Nat.le_of_ble_eq_true rfl) dL_product_42 (⟨rfl, rfl⟩)
      ·
        refine r_iload C dL_product_12 1 rfl ?_
        refine r_aload_n C dL_product_14 rfl 2 rfl ?_
        refine r_iconst C (nI 4) dL_product_15 (by decide) ?_
        refine r_iload_n C dL_product_16 rfl 3 rfl ?_
        refine r_imul C dL_product_17 ?_
        refine r_topi (pk_mul 4 i) ?_
        refine r_iload C dL_product_18 0 rfl ?_
        refine r_iadd C dL_product_20 ?_
        refine r_topi (nI_add (4 * i) k) ?_
        refine r_iald C (id := 138) (n := 20) (a := (4 * i) + k) (by decide) rfl (by omega) (by decide) dL_product_21 ?_
        refine r_aload_n C dL_product_22 rfl 4 rfl ?_
        refine r_iconst C (nI 4) dL_product_23 (by decide) ?_
        refine r_iload_n C dL_product_24 rfl 5 rfl ?_
        refine r_imul C dL_product_25 ?_
        refine r_topi ((by decide : nI 4 * nI 0 = nI 0)) ?_
        refine r_iload C dL_product_26 0 rfl ?_
        refine r_iadd C dL_product_28 ?_
        refine r_topi (nI_add 0 k) ?_
        refine r_iald C (id := 139) (n := 4) (a := 0 + k) (by decide) rfl (by omega) (by decide) dL_product_29 ?_
        refine r_imul C dL_product_30 ?_
        refine r_iadd C dL_product_31 ?_
        refine r_istore C [(4, .int ((sI (fun k => M.1 138 (4 * i + k) * M.1 139 (4 * 0 + k)) k) + ((M.1 138 ((4 * i) + k)) * (M.1 139 (0 + k))))), (5, .int (nI k)), (0, .ref (ad 138)), (1, .int (nI i)), (2, .ref (ad 139)), (3, .int (nI 0))] dL_product_32 (by decide) rfl ?_
        refine r_iinc C (nI (k + 1)) [(5, .int (nI (k + 1))), (4, .int ((sI (fun k => M.1 138 (4 * i + k) * M.1 139 (4 * 0 + k)) k) + ((M.1 138 ((4 * i) + k)) * (M.1 139 (0 + k))))), (0, .ref (ad 138)), (1, .int (nI i)), (2, .ref (ad 139)), (3, .int (nI 0))] dL_product_34 (j := 1) rfl (inc_n k 1) (by decide) rfl ?_
        refine r_goto C 6 dL_product_37 (by decide) ?_
        refine r_lv (lv2 := [(5, .int (nI (k + 1))), (4, .int (sI (fun k => M.1 138 (4 * i + k) * M.1 139 (4 * 0 + k)) (k + 1))), (0, .ref (ad 138)), (1, .int (nI i)), (2, .ref (ad 139)), (3, .int (nI 0))]) [0, 1, 2, 3, 4, 5] rfl ?_
        refine r_lve (lv2 := [(5, .int (nI (k + 1))), (4, .int (sI (fun k => M.1 138 (4 * i + k) * M.1 139 (4 * 0 + k)) (k + 1))), (0, .ref (ad 138)), (1, .int (nI i)), (2, .ref (ad 139)), (3, .int (nI 0))]) rfl ?_
        exact ih (k + 1) (by omega) (by omega)
  refine r_lv (lv2 := [(5, .int (nI 0)), (4, .int (sI (fun k => M.1 138 (4 * i + k) * M.1 139 (4 * 0 + k)) 0)), (0, .ref (ad 138)), (1, .int (nI i)), (2, .ref (ad 139)), (3, .int (nI 0))]) [0, 1, 2, 3, 4, 5] rfl ?_
  exact Lp (4 + 1) 0 (by omega) (by omega)
set_option maxRecDepth 100000 in
set_option maxHeartbeats 4000000 in
theorem c_L_prod_hh (l : Launch) (D : va_G) (cs : Nat → ClassId) (ad : Nat → Nat) (M : Mm)  : ∀ sz : Nat, Met l yL_product (.code yL_product cL_product 6 (some .int) :: TT) { frames := 0, cells := 0, slots := 0, locals := 0 } (va_Pc [.ref (ad 139), .int (nI 0), .ref (ad 139), .int (nI 0)] (fun U9 => U9.heap.size = sz ∧ wB D cs ad (fA ad sz) M U9)) (va_Qi (fun r M2 => r = pdL (M.1 139) (M.1 139) 0 0 ∧ M2 = M) (wB D cs ad (fA ad sz)) (fA ad sz)) 0 0 (fA ad sz) := by
  refine st_I (by decide) (Nat.le_of_ble_eq_true rfl) (fun κ C E => ?_)
  refine r_lv (lv2 := [(0, .ref (ad 139)), (1, .int (nI 0)), (2, .ref (ad 139)), (3, .int (nI 0))]) [0, 1, 2, 3] rfl ?_
  refine r_iconst C (nI 0) dL_product_0 (by decide) ?_
  refine r_istore C [(4, .int (nI 0)), (0, .ref (ad 139)), (1, .int (nI 0)), (2, .ref (ad 139)), (3, .int (nI 0))] dL_product_1 (by decide) rfl ?_
  refine r_iconst C (nI 0) dL_product_3 (by decide) ?_
  refine r_istore C [(5, .int (nI 0)), (4, .int (nI 0)), (0, .ref (ad 139)), (1, .int (nI 0)), (2, .ref (ad 139)), (3, .int (nI 0))] dL_product_4 (by decide) rfl ?_
  have Lp : ∀ (f k : Nat), 4 + 1 ≤ k + f → k ≤ 4 → VV l D cs ad 6 κ 0 M 6 [(5, .int (nI k)), (4, .int (sI (fun k => M.1 139 (4 * 0 + k) * M.1 139 (4 * 0 + k)) k)), (0, .ref (ad 139)), (1, .int (nI 0)), (2, .ref (ad 139)), (3, .int (nI 0))] [] := by
    intro f
    induction f with
    | zero => intro k hk1 hk2; exact absurd hk1 (by omega)
    | succ f ih =>
      intro k hk1 hk2
      refine r_iload C dL_product_6 0 rfl ?_
      refine r_iconst C (nI 4) dL_product_8 (by decide) ?_
      refine r_icmpN_ge C 40 dL_product_9 (by decide) (by omega) (by omega) (fun h9 => ?_) (fun h9 => ?_)
      ·
        have hk9 : 4 = k := by omega
        subst hk9
        refine r_iload C dL_product_40 1 rfl ?_
        exact E 0 _ _ _ _ (Nat.le_of_ble_eq_true rfl) dL_product_42 (⟨rfl, rfl⟩)
      ·
        refine r_iload C dL_product_12 1 rfl ?_
        refine r_aload_n C dL_product_14 rfl 2 rfl ?_
        refine r_iconst C (nI 4) dL_product_15 (by decide) ?_
        refine r_iload_n C dL_product_16 rfl 3 rfl ?_
        refine r_imul C dL_product_17 ?_
        refine r_topi ((by decide : nI 4 * nI 0 = nI 0)) ?_
        refine r_iload C dL_product_18 0 rfl ?_
        refine r_iadd C dL_product_20 ?_
        refine r_topi (nI_add 0 k) ?_
        refine r_iald C (id := 139) (n := 4) (a := 0 + k) (by decide) rfl (by omega) (by decide) dL_product_21 ?_
        refine r_aload_n C dL_product_22 rfl 4 rfl ?_
        refine r_iconst C (nI 4) dL_product_23 (by decide) ?_
        refine r_iload_n C dL_product_24 rfl 5 rfl ?_
        refine r_imul C dL_product_25 ?_
        refine r_topi ((by decide : nI 4 * nI 0 = nI 0)) ?_
        refine r_iload C dL_product_26 0 rfl ?_
        refine r_iadd C dL_product_28 ?_
        refine r_topi (nI_add 0 k) ?_
        refine r_iald C (id := 139) (n := 4) (a := 0 + k) (by decide) rfl (by omega) (by decide) dL_product_29 ?_
        refine r_imul C dL_product_30 ?_
        refine r_iadd C dL_product_31 ?_
        refine r_istore C [(4, .int ((sI (fun k => M.1 139 (4 * 0 + k) * M.1 139 (4 * 0 + k)) k) + ((M.1 139 (0 + k)) * (M.1 139 (0 + k))))), (5, .int (nI k)), (0, .ref (ad 139)), (1, .int (nI 0)), (2, .ref (ad 139)), (3, .int (nI 0))] dL_product_32 (by decide) rfl ?_
        refine r_iinc C (nI (k + 1)) [(5, .int (nI (k + 1))), (4, .int ((sI (fun k => M.1 139 (4 * 0 + k) * M.1 139 (4 * 0 + k)) k) + ((M.1 139 (0 + k)) * (M.1 139 (0 + k))))), (0, .ref (ad 139)), (1, .int (nI 0)), (2, .ref (ad 139)), (3, .int (nI 0))] dL_product_34 (j := 1) rfl (inc_n k 1) (by decide) rfl ?_
        refine r_goto C 6 dL_product_37 (by decide) ?_
        refine r_lv (lv2 := [(5, .int (nI (k + 1))), (4, .int (sI (fun k => M.1 139 (4 * 0 + k) * M.1 139 (4 * 0 + k)) (k + 1))), (0, .ref (ad 139)), (1, .int (nI 0)), (2, .ref (ad 139)), (3, .int (nI 0))]) [0, 1, 2, 3, 4, 5] rfl ?_
        refine r_lve (lv2 := [(5, .int (nI (k + 1))), (4, .int (sI (fun k => M.1 139 (4 * 0 + k) * M.1 139 (4 * 0 + k)) (k + 1))), (0, .ref (ad 139)), (1, .int (nI 0)), (2, .ref (ad 139)), (3, .int (nI 0))]) rfl ?_
        exact ih (k + 1) (by omega) (by omega)
  refine r_lv (lv2 := [(5, .int (nI 0)), (4, .int (sI (fun k => M.1 139 (4 * 0 + k) * M.1 139 (4 * 0 + k)) 0)), (0, .ref (ad 139)), (1, .int (nI 0)), (2, .ref (ad 139)), (3, .int (nI 0))]) [0, 1, 2, 3, 4, 5] rfl ?_
  exact Lp (4 + 1) 0 (by omega) (by omega)
set_option maxRecDepth 100000 in
set_option maxHeartbeats 4000000 in
theorem c_L_misfit (l : Launch) (D : va_G) (cs : Nat → ClassId) (ad : Nat → Nat) (M : Mm) (z : Nat → Int32) (n d : Nat) (e : Nat → Nat → Bool) (tM : LR M z n d e) (hn4 : n ≤ 4) (he : eb z n e) (mk : Nat → Nat) (hk : gk z n mk) : ∀ sz : Nat, Met l yL_misfit (.code yL_misfit cL_misfit 5 (some .int) :: TT) { frames := 1, cells := 0, slots := 0, locals := 25 } (va_Pc [.ref (ad 135), .ref (ad 137), .ref (ad 138)] (fun U9 => U9.heap.size = sz ∧ wB D cs ad (fA ad sz) M U9)) (va_Qi (fun r M2 => ((mfR z n = -1 ∧ r = -1) ∨ ∃ a b, a < n ∧ b < n ∧ mfR z n = nI (8 * a + b) ∧ r = nI (4 * a + b)) ∧ M2 = M) (wB D cs ad (fA ad sz)) (fA ad sz)) 0 0 (fA ad sz) := by
  refine st_I (by decide) (Nat.le_of_ble_eq_true rfl) (fun κ C E => ?_)
  refine r_lv (lv2 := [(0, .ref (ad 135)), (1, .ref (ad 137)), (2, .ref (ad 138))]) [0, 1, 2] rfl ?_
  refine r_iconst C (nI 0) dL_misfit_0 (by decide) ?_
  refine r_istore_n C [(3, .int (nI 0)), (0, .ref (ad 135)), (1, .ref (ad 137)), (2, .ref (ad 138))] dL_misfit_1 rfl (by decide) rfl ?_
  have Lp : ∀ (f_i i : Nat), n + 1 ≤ i + f_i → i ≤ n → (∀ k, k < 8 * i → mfp z k = false) → VV l D cs ad 5 κ 0 M 2 [(3, .int (nI i)), (0, .ref (ad 135)), (1, .ref (ad 137)), (2, .ref (ad 138))] [] := by
    intro f_i
    induction f_i with
    | zero => intro i hk1_i hk2_i hI_i; exact absurd hk1_i (by omega)
    | succ f_i ih_i =>
      intro i hk1_i hk2_i hI_i
      refine r_iload_n C dL_misfit_2 rfl 0 rfl ?_
      refine r_aload_n C dL_misfit_3 rfl 1 rfl ?_
      refine r_iconst C (nI 0) dL_misfit_4 (by decide) ?_
      refine r_iald C (id := 135) (n := 3) (a := 0) (by decide) rfl (by decide) (by decide) dL_misfit_5 ?_
      refine r_topi (w := nI n) (tM).1 ?_
      refine r_icmpN_ge C 64 dL_misfit_6 (by decide) (by omega) (by omega) (fun h6 => ?_) (fun h6 => ?_)
      ·
        have hk9 : n = i := by omega
        subst hk9
        refine r_iconst C ((-1)) dL_misfit_64 (by decide) ?_
        exact E 0 _ _ _ _ (Nat.le_of_ble_eq_true rfl) dL_misfit_65 (⟨Or.inl ⟨(fiR_no hI_i).symm, rfl⟩, rfl⟩)
      ·
        refine r_iload_n C dL_misfit_9 rfl 0 rfl ?_
        refine r_iconst C (nI 1) dL_misfit_10 (by decide) ?_
        refine r_iadd C dL_misfit_11 ?_
        refine r_topi (nI_add i 1) ?_
        refine r_istore C [(4, .int (nI (i + 1))), (3, .int (nI i)), (0, .ref (ad 135)), (1, .ref (ad 137)), (2, .ref (ad 138))] dL_misfit_12 (by decide) rfl ?_
        have Lq : ∀ (f_j j : Nat), n + 1 ≤ j + f_j → j ≤ n → (i < j ∧ ∀ k, k < 8 * i + j → mfp z k = false) → VV l D cs ad 5 κ 0 M 14 [(4, .int (nI j)), (3, .int (nI i)), (0, .ref (ad 135)), (1, .ref (ad 137)), (2, .ref (ad 138))] [] := by
          intro f_j
          induction f_j with
          | zero => intro j hk1_j hk2_j hI_j; exact absurd hk1_j (by omega)
          | succ f_j ih_j =>
            intro j hk1_j hk2_j hI_j
            refine r_iload C dL_misfit_14 0 rfl ?_
            refine r_aload_n C dL_misfit_16 rfl 2 rfl ?_
            refine r_iconst C (nI 0) dL_misfit_17 (by decide) ?_
            refine r_iald C (id := 135) (n := 3) (a := 0) (by decide) rfl (by decide) (by decide) dL_misfit_18 ?_
            refine r_topi (w := nI n) (tM).1 ?_
            refine r_icmpN_ge C 58 dL_misfit_19 (by decide) (by omega) (by omega) (fun h19 => ?_) (fun h19 => ?_)
            ·
              have hk9 : n = j := by omega
              subst hk9
              refine r_iinc C (nI (i + 1)) [(3, .int (nI (i + 1))), (4, .int (nI n)), (0, .ref (ad 135)), (1, .ref (ad 137)), (2, .ref (ad 138))] dL_misfit_58 (j := 1) rfl (inc_n i 1) (by decide) rfl ?_
              refine r_goto C 2 dL_misfit_61 (by decide) ?_
              refine r_lv (lv2 := [(3, .int (nI (i + 1))), (0, .ref (ad 135)), (1, .ref (ad 137)), (2, .ref (ad 138))]) [0, 2, 3, 4] rfl ?_
              exact ih_i (i + 1) (by omega) (by omega) (mf_e (by omega) hk (by omega) hI_j.2)
            ·
              refine r_aload_n C dL_misfit_22 rfl 3 rfl ?_
              refine r_iconst C (nI 4) dL_misfit_23 (by decide) ?_
              refine r_iload_n C dL_misfit_24 rfl 1 rfl ?_
              refine r_imul C dL_misfit_25 ?_
              refine r_topi (pk_mul 4 i) ?_
              refine r_iload C dL_misfit_26 0 rfl ?_
              refine r_iadd C dL_misfit_28 ?_
              refine r_topi (nI_add (4 * i) j) ?_
              refine r_iald C (id := 137) (n := 20) (a := (4 * i) + j) (by decide) rfl (by omega) (by decide) dL_misfit_29 ?_
              refine r_topi (w := bI (e i j)) ((tM).2.2.2.1 i j (by omega) (by omega)) ?_
              refine r_iconst C (nI 1) dL_misfit_30 (by decide) ?_
              refine r_icmp_ne C 52 dL_misfit_31 (by decide) (fun h31 => ?_) (fun h31 => ?_)
              ·
                have hoff : mfp z (8 * i + j) = false := mf_off (by omega) he (by omega) (by omega) (Or.inl (b1_f h31))
                refine r_iinc C (nI (j + 1)) [(4, .int (nI (j + 1))), (3, .int (nI i)), (0, .ref (ad 135)), (1, .ref (ad 137)), (2, .ref (ad 138))] dL_misfit_52 (j := 0) rfl (inc_n j 1) (by decide) rfl ?_
                refine r_goto C 14 dL_misfit_55 (by decide) ?_
                refine r_lv (lv2 := [(4, .int (nI (j + 1))), (3, .int (nI i)), (0, .ref (ad 135)), (1, .ref (ad 137)), (2, .ref (ad 138))]) [0, 1, 2, 3, 4] rfl ?_
                exact ih_j (j + 1) (by omega) (by omega) ⟨by omega, mf_s (n := n) (by omega) hI_j.2 hoff⟩
              ·
                refine r_aload_n C dL_misfit_34 rfl 4 rfl ?_
                refine r_iload_n C dL_misfit_35 rfl 1 rfl ?_
                refine r_aload_n C dL_misfit_36 rfl 4 rfl ?_
                refine r_iload C dL_misfit_37 0 rfl ?_
                refine r_pcallS_i (nA := 4) C (Nat.le_of_ble_eq_true rfl) [.ref (ad 138), .int (nI i), .ref (ad 138), .int (nI j)] (c_L_prod_ll l D cs ad M  i (by omega) j (by omega)) (tt_S ml_L_8 st_L_product in_L co_L_product) ⟨rfl, rfl⟩ ⟨rfl, by decide, by decide, by decide⟩ ⟨Nat.le_of_ble_eq_true rfl, Nat.le_of_ble_eq_true rfl⟩ rfl rfl (Nat.le_of_ble_eq_true rfl) dL_misfit_39 ?_
                refine r_topi (w := (dotz z (18 + 4 * i) (18 + 4 * j))) (pL_ll tM (by omega) (by omega)) ?_
                refine r_if_eq C 52 dL_misfit_42 (by decide) (fun h42 => ?_) (fun h42 => ?_)
                ·
                  have hoff : mfp z (8 * i + j) = false := mf_off (by omega) he (by omega) (by omega) (Or.inr h42)
                  refine r_iinc C (nI (j + 1)) [(4, .int (nI (j + 1))), (3, .int (nI i)), (0, .ref (ad 135)), (1, .ref (ad 137)), (2, .ref (ad 138))] dL_misfit_52 (j := 0) rfl (inc_n j 1) (by decide) rfl ?_
                  refine r_goto C 14 dL_misfit_55 (by decide) ?_
                  refine r_lv (lv2 := [(4, .int (nI (j + 1))), (3, .int (nI i)), (0, .ref (ad 135)), (1, .ref (ad 137)), (2, .ref (ad 138))]) [0, 1, 2, 3, 4] rfl ?_
                  exact ih_j (j + 1) (by omega) (by omega) ⟨by omega, mf_s (n := n) (by omega) hI_j.2 hoff⟩
                ·
                  refine r_iconst C (nI 4) dL_misfit_45 (by decide) ?_
                  refine r_iload_n C dL_misfit_46 rfl 1 rfl ?_
                  refine r_imul C dL_misfit_47 ?_
                  refine r_topi (pk_mul 4 i) ?_
                  refine r_iload C dL_misfit_48 0 rfl ?_
                  refine r_iadd C dL_misfit_50 ?_
                  refine r_topi (nI_add (4 * i) j) ?_
                  exact E 0 _ _ _ _ (Nat.le_of_ble_eq_true rfl) dL_misfit_51 (⟨Or.inr ⟨i, j, by omega, by omega, (fiR_at (by omega) (mf_on (by omega) he (by omega) (by omega) (by omega) (b1_t h31) h42) (fun k hk9 => hI_j.2 k hk9)).symm, rfl⟩, rfl⟩)
        refine r_lv (lv2 := [(4, .int (nI (i + 1))), (3, .int (nI i)), (0, .ref (ad 135)), (1, .ref (ad 137)), (2, .ref (ad 138))]) [0, 1, 2, 3, 4] rfl ?_
        exact Lq (n + 1) (i + 1) (by omega) (by omega) ⟨by omega, mf_0 (by omega) hI_i⟩
  refine r_lv (lv2 := [(3, .int (nI 0)), (0, .ref (ad 135)), (1, .ref (ad 137)), (2, .ref (ad 138))]) [0, 1, 2, 3] rfl ?_
  exact Lp (n + 1) 0 (by omega) (by omega) (fun k hk9 => absurd hk9 (by omega))
set_option maxRecDepth 100000 in
set_option maxHeartbeats 4000000 in
theorem c_L_unreached (l : Launch) (D : va_G) (cs : Nat → ClassId) (ad : Nat → Nat) (M : Mm) (z : Nat → Int32) (n d : Nat) (e : Nat → Nat → Bool) (tM : LR M z n d e) (hn4 : n ≤ 4) (he : eb z n e) (mk : Nat → Nat) (hk : gk z n mk) : ∀ sz : Nat, Met l yL_unreached (.code yL_unreached cL_unreached 5 (some .int) :: TT) { frames := 1, cells := 0, slots := 0, locals := 25 } (va_Pc [.ref (ad 135), .ref (ad 136), .ref (ad 138), .ref (ad 139)] (fun U9 => U9.heap.size = sz ∧ wB D cs ad (fA ad sz) M U9)) (va_Qi (fun r M2 => r = upR z n ∧ M2 = M) (wB D cs ad (fA ad sz)) (fA ad sz)) 0 0 (fA ad sz) := by
  refine st_I (by decide) (Nat.le_of_ble_eq_true rfl) (fun κ C E => ?_)
  refine r_lv (lv2 := [(0, .ref (ad 135)), (1, .ref (ad 136)), (2, .ref (ad 138)), (3, .ref (ad 139))]) [0, 1, 2, 3] rfl ?_
  refine r_iconst C (nI 0) dL_unreached_0 (by decide) ?_
  refine r_istore C [(4, .int (nI 0)), (0, .ref (ad 135)), (1, .ref (ad 136)), (2, .ref (ad 138)), (3, .ref (ad 139))] dL_unreached_1 (by decide) rfl ?_
  have Lp : ∀ (f_v v : Nat), n + 1 ≤ v + f_v → v ≤ n → (∀ k, k < v → upr z k = false) → VV l D cs ad 5 κ 0 M 3 [(4, .int (nI v)), (0, .ref (ad 135)), (1, .ref (ad 136)), (2, .ref (ad 138)), (3, .ref (ad 139))] [] := by
    intro f_v
    induction f_v with
    | zero => intro v hk1_v hk2_v hI_v; exact absurd hk1_v (by omega)
    | succ f_v ih_v =>
      intro v hk1_v hk2_v hI_v
      refine r_iload C dL_unreached_3 0 rfl ?_
      refine r_aload_n C dL_unreached_5 rfl 1 rfl ?_
      refine r_iconst C (nI 0) dL_unreached_6 (by decide) ?_
      refine r_iald C (id := 135) (n := 3) (a := 0) (by decide) rfl (by decide) (by decide) dL_unreached_7 ?_
      refine r_topi (w := nI n) (tM).1 ?_
      refine r_icmpN_ge C 38 dL_unreached_8 (by decide) (by omega) (by omega) (fun h8 => ?_) (fun h8 => ?_)
      ·
        have hk9 : n = v := by omega
        subst hk9
        refine r_iconst C ((-1)) dL_unreached_38 (by decide) ?_
        exact E 0 _ _ _ _ (Nat.le_of_ble_eq_true rfl) dL_unreached_39 (⟨fiR_no hI_v, rfl⟩)
      ·
        refine r_aload_n C dL_unreached_11 rfl 2 rfl ?_
        refine r_iload C dL_unreached_12 0 rfl ?_
        refine r_iald C (id := 136) (n := 4) (a := v) (by decide) rfl (by omega) (by decide) dL_unreached_14 ?_
        refine r_topi (w := (z (2 + v))) ((tM).2.2.1 v (by omega)) ?_
        refine r_if_le C 32 dL_unreached_15 (by decide) (fun h15 => ?_) (fun h15 => ?_)
        ·
          have hoff : upr z v = false := up_n (Or.inl h15)
          refine r_iinc C (nI (v + 1)) [(4, .int (nI (v + 1))), (0, .ref (ad 135)), (1, .ref (ad 136)), (2, .ref (ad 138)), (3, .ref (ad 139))] dL_unreached_32 (j := 0) rfl (inc_n v 1) (by decide) rfl ?_
          refine r_goto C 3 dL_unreached_35 (by decide) ?_
          refine r_lv (lv2 := [(4, .int (nI (v + 1))), (0, .ref (ad 135)), (1, .ref (ad 136)), (2, .ref (ad 138)), (3, .ref (ad 139))]) [0, 1, 2, 3, 4] rfl ?_
          exact ih_v (v + 1) (by omega) (by omega) (lt9s hI_v hoff)
        ·
          refine r_aload_n C dL_unreached_18 rfl 3 rfl ?_
          refine r_iload C dL_unreached_19 0 rfl ?_
          refine r_aload_n C dL_unreached_21 rfl 4 rfl ?_
          refine r_iconst C (nI 0) dL_unreached_22 (by decide) ?_
          refine r_pcallS_i (nA := 4) C (Nat.le_of_ble_eq_true rfl) [.ref (ad 138), .int (nI v), .ref (ad 139), .int (nI 0)] (c_L_prod_lh l D cs ad M  v (by omega)) (tt_S ml_L_8 st_L_product in_L co_L_product) ⟨rfl, rfl⟩ ⟨rfl, by decide, by decide, by decide⟩ ⟨Nat.le_of_ble_eq_true rfl, Nat.le_of_ble_eq_true rfl⟩ rfl rfl (Nat.le_of_ble_eq_true rfl) dL_unreached_23 ?_
          refine r_topi (w := (dotz z 50 (18 + 4 * v))) (pL_lh tM (by omega)) ?_
          refine r_if_ne C 32 dL_unreached_26 (by decide) (fun h26 => ?_) (fun h26 => ?_)
          ·
            have hoff : upr z v = false := up_n (Or.inr h26)
            refine r_iinc C (nI (v + 1)) [(4, .int (nI (v + 1))), (0, .ref (ad 135)), (1, .ref (ad 136)), (2, .ref (ad 138)), (3, .ref (ad 139))] dL_unreached_32 (j := 0) rfl (inc_n v 1) (by decide) rfl ?_
            refine r_goto C 3 dL_unreached_35 (by decide) ?_
            refine r_lv (lv2 := [(4, .int (nI (v + 1))), (0, .ref (ad 135)), (1, .ref (ad 136)), (2, .ref (ad 138)), (3, .ref (ad 139))]) [0, 1, 2, 3, 4] rfl ?_
            exact ih_v (v + 1) (by omega) (by omega) (lt9s hI_v hoff)
          ·
            refine r_iload C dL_unreached_29 0 rfl ?_
            exact E 0 _ _ _ _ (Nat.le_of_ble_eq_true rfl) dL_unreached_31 (⟨fiR_at (by omega) (up_y h15 h26) hI_v, rfl⟩)
  refine r_lv (lv2 := [(4, .int (nI 0)), (0, .ref (ad 135)), (1, .ref (ad 136)), (2, .ref (ad 138)), (3, .ref (ad 139))]) [0, 1, 2, 3, 4] rfl ?_
  exact Lp (n + 1) 0 (by omega) (by omega) (fun k hk9 => absurd hk9 (by omega))
set_option maxRecDepth 100000 in
set_option maxHeartbeats 4000000 in
theorem c_L_gcd (l : Launch) (D : va_G) (cs : Nat → ClassId) (ad : Nat → Nat) (M : Mm) (a b : Nat) (ha : a < 2 ^ 40) (hb : b < 2 ^ 40) : ∀ sz : Nat, Met l yL_gcd (.code yL_gcd cL_gcd 10 (some .long) :: TT) { frames := 0, cells := 0, slots := 0, locals := 0 } (va_Pc [.long (lN a), .long (lN b)] (fun U9 => U9.heap.size = sz ∧ wB D cs ad (fA ad sz) M U9)) (va_Ql (fun r M2 => r = lN (Nat.gcd a b) ∧ M2 = M) (wB D cs ad (fA ad sz)) (fA ad sz)) 0 0 (fA ad sz) := by
  refine st_L (by decide) (Nat.le_of_ble_eq_true rfl) (fun κ C E => ?_)
  refine r_lv (lv2 := [(0, .long (lN a)), (2, .long (lN b))]) [0, 1] rfl ?_
  refine r_lload_n C dL_gcd_0 rfl 0 rfl ?_
  refine r_lstore C [(4, .long (lN a)), (0, .long (lN a)), (2, .long (lN b))] dL_gcd_1 (by decide) rfl ?_
  refine r_lload_n C dL_gcd_3 rfl 2 rfl ?_
  refine r_lstore C [(6, .long (lN b)), (4, .long (lN a)), (0, .long (lN a)), (2, .long (lN b))] dL_gcd_4 (by decide) rfl ?_
  have Lp : ∀ (f k : Nat), 101 + 1 ≤ k + f → k ≤ 101 → k ≤ 100 → VV l D cs ad 10 κ 0 M 6 [(4, .long (lN ((eu b a k).2))), (6, .long (lN ((eu b a k).1))), (0, .long (lN a)), (2, .long (lN b))] [] := by
    intro f
    induction f with
    | zero => intro k hk1 hk2 hI; exact absurd hk1 (by omega)
    | succ f ih =>
      intro k hk1 hk2 hI
      have hel := eu_le (Nat.le_of_lt hb) (Nat.le_of_lt ha) (k := k)
      refine r_lload C dL_gcd_6 0 rfl ?_
      refine r_lconst C (lN 0) dL_gcd_8 rfl ?_
      refine r_lcmp C dL_gcd_9 ?_
      refine r_if_eq C 31 dL_gcd_10 (by decide) (fun h10 => ?_) (fun h10 => ?_)
      ·
        rw [lgcN_eq (by omega) (by omega)] at h10
        have hz : (eu b a k).2 = 0 := by first | exact h10 | omega
        have hgc : (eu b a k).1 = Nat.gcd a b := by have h9 := eu_g (a := b) (b := a) (k := k); rw [hz, Nat.gcd_zero_right] at h9; rw [h9, Nat.gcd_comm]
        refine r_lload C dL_gcd_31 1 rfl ?_
        exact E 0 _ _ _ _ (Nat.le_of_ble_eq_true rfl) dL_gcd_33 (⟨congrArg lN hgc, rfl⟩)
      ·
        rw [lgcN_eq (by omega) (by omega)] at h10
        refine r_lload C dL_gcd_13 1 rfl ?_
        refine r_lload C dL_gcd_15 0 rfl ?_
        refine r_lrem C dL_gcd_17 (fun h9 => h10 (by have := (lgcN_eq (a := (eu b a k).2) (b := 0) (by omega) (by decide)); rw [← this, lgc_eq]; exact h9)) ?_
        refine r_topl (w := lN (((eu b a k).1) % ((eu b a k).2))) (pk_lRem (by omega) (by omega) (by omega)) ?_
        refine r_lstore C [(8, .long (lN (((eu b a k).1) % ((eu b a k).2)))), (4, .long (lN ((eu b a k).2))), (6, .long (lN ((eu b a k).1))), (0, .long (lN a)), (2, .long (lN b))] dL_gcd_18 (by decide) rfl ?_
        refine r_lload C dL_gcd_20 1 rfl ?_
        refine r_lstore C [(6, .long (lN ((eu b a k).2))), (8, .long (lN (((eu b a k).1) % ((eu b a k).2)))), (4, .long (lN ((eu b a k).2))), (0, .long (lN a)), (2, .long (lN b))] dL_gcd_22 (by decide) rfl ?_
        refine r_lload C dL_gcd_24 1 rfl ?_
        refine r_lstore C [(4, .long (lN (((eu b a k).1) % ((eu b a k).2)))), (6, .long (lN ((eu b a k).2))), (8, .long (lN (((eu b a k).1) % ((eu b a k).2)))), (0, .long (lN a)), (2, .long (lN b))] dL_gcd_26 (by decide) rfl ?_
        refine r_lve (lv2 := [(4, .long (lN ((eu b a (k + 1)).2))), (6, .long (lN ((eu b a (k + 1)).1))), (8, .long (lN (((eu b a k).1) % ((eu b a k).2)))), (0, .long (lN a)), (2, .long (lN b))]) (by rw [eu_s h10]) ?_
        refine r_goto C 6 dL_gcd_28 (by decide) ?_
        refine r_lv (lv2 := [(4, .long (lN ((eu b a (k + 1)).2))), (6, .long (lN ((eu b a (k + 1)).1))), (0, .long (lN a)), (2, .long (lN b))]) [0, 1, 3, 4] rfl ?_
        exact ih (k + 1) (by omega) (by omega) (by have : k ≠ 100 := (fun q => h10 (by subst q; exact eu_e (by omega))); omega)
  refine r_lv (lv2 := [(4, .long (lN ((eu b a 0).2))), (6, .long (lN ((eu b a 0).1))), (0, .long (lN a)), (2, .long (lN b))]) [1, 0, 2, 3] rfl ?_
  exact Lp (101 + 1) 0 (by omega) (by omega) (by omega)
set_option maxRecDepth 100000 in
set_option maxHeartbeats 4000000 in
theorem c_L_clique (l : Launch) (D : va_G) (cs : Nat → ClassId) (ad : Nat → Nat) (M : Mm) (z : Nat → Int32) (n d : Nat) (e : Nat → Nat → Bool) (tM : LR M z n d e) (hn4 : n ≤ 4) (he : eb z n e) (mk : Nat → Nat) (hk : gk z n mk) (wt9 : Nat → Nat) (hw : gw z n wt9) (m : Nat) (hm : m < 2 ^ n) : ∀ sz : Nat, Met l yL_clique (.code yL_clique cL_clique 5 (some .boolean) :: TT) { frames := 0, cells := 0, slots := 0, locals := 0 } (va_Pc [.ref (ad 135), .ref (ad 137), .int (nI m)] (fun U9 => U9.heap.size = sz ∧ wB D cs ad (fA ad sz) M U9)) (va_Qi (fun r M2 => r = bI (!decide (clW z n m = -1)) ∧ M2 = M) (wB D cs ad (fA ad sz)) (fA ad sz)) 0 0 (fA ad sz) := by
  have hm9 : m < 16 := Nat.lt_of_lt_of_le hm (Nat.pow_le_pow_right (by decide) hn4 : 2 ^ n ≤ 2 ^ 4)
  refine st_Z (by decide) (Nat.le_of_ble_eq_true rfl) (fun κ C E => ?_)
  refine r_lv (lv2 := [(0, .ref (ad 135)), (1, .ref (ad 137)), (2, .int (nI m))]) [0, 1, 2] rfl ?_
  refine r_iconst C (nI 0) dL_clique_0 (by decide) ?_
  refine r_istore_n C [(3, .int (nI 0)), (0, .ref (ad 135)), (1, .ref (ad 137)), (2, .int (nI m))] dL_clique_1 rfl (by decide) rfl ?_
  have Lp : ∀ (f_i i : Nat), n + 1 ≤ i + f_i → i ≤ n → cqE e m i → VV l D cs ad 5 κ 0 M 2 [(3, .int (nI i)), (0, .ref (ad 135)), (1, .ref (ad 137)), (2, .int (nI m))] [] := by
    intro f_i
    induction f_i with
    | zero => intro i hk1_i hk2_i hI_i; exact absurd hk1_i (by omega)
    | succ f_i ih_i =>
      intro i hk1_i hk2_i hI_i
      refine r_iload_n C dL_clique_2 rfl 0 rfl ?_
      refine r_aload_n C dL_clique_3 rfl 1 rfl ?_
      refine r_iconst C (nI 0) dL_clique_4 (by decide) ?_
      refine r_iald C (id := 135) (n := 3) (a := 0) (by decide) rfl (by decide) (by decide) dL_clique_5 ?_
      refine r_topi (w := nI n) (tM).1 ?_
      refine r_icmpN_ge C 62 dL_clique_6 (by decide) (by omega) (by omega) (fun h6 => ?_) (fun h6 => ?_)
      ·
        have hk9 : n = i := by omega
        subst hk9
        refine r_iconst C (nI 1) dL_clique_62 (by decide) ?_
        exact E 0 _ _ _ _ (Nat.le_of_ble_eq_true rfl) dL_clique_63 rfl (⟨cl_y (by omega) he hk hw hm hI_i, rfl⟩)
      ·
        refine r_iconst C (nI 0) dL_clique_9 (by decide) ?_
        refine r_istore C [(4, .int (nI 0)), (3, .int (nI i)), (0, .ref (ad 135)), (1, .ref (ad 137)), (2, .int (nI m))] dL_clique_10 (by decide) rfl ?_
        have Lq : ∀ (f_j j : Nat), i + 1 ≤ j + f_j → j ≤ i → (∀ c, c < j → m.testBit c = true → m.testBit i = true → e i c = true) → VV l D cs ad 5 κ 0 M 12 [(4, .int (nI j)), (3, .int (nI i)), (0, .ref (ad 135)), (1, .ref (ad 137)), (2, .int (nI m))] [] := by
          intro f_j
          induction f_j with
          | zero => intro j hk1_j hk2_j hI_j; exact absurd hk1_j (by omega)
          | succ f_j ih_j =>
            intro j hk1_j hk2_j hI_j
            refine r_iload C dL_clique_12 0 rfl ?_
            refine r_iload_n C dL_clique_14 rfl 1 rfl ?_
            refine r_icmpN_ge C 56 dL_clique_15 (by decide) (by omega) (by omega) (fun h15 => ?_) (fun h15 => ?_)
            ·
              have hk9 : i = j := by omega
              subst hk9
              refine r_iinc C (nI (i + 1)) [(3, .int (nI (i + 1))), (4, .int (nI i)), (0, .ref (ad 135)), (1, .ref (ad 137)), (2, .int (nI m))] dL_clique_56 (j := 1) rfl (inc_n i 1) (by decide) rfl ?_
              refine r_goto C 2 dL_clique_59 (by decide) ?_
              refine r_lv (lv2 := [(3, .int (nI (i + 1))), (0, .ref (ad 135)), (1, .ref (ad 137)), (2, .int (nI m))]) [0, 2, 3, 4] rfl ?_
              exact ih_i (i + 1) (by omega) (by omega) (cq_s hI_i hI_j)
            ·
              refine r_iload_n C dL_clique_18 rfl 4 rfl ?_
              refine r_iload_n C dL_clique_19 rfl 1 rfl ?_
              refine r_ishr C dL_clique_20 ?_
              refine r_iconst C (nI 1) dL_clique_21 (by decide) ?_
              refine r_iand C dL_clique_22 ?_
              refine r_iconst C (nI 1) dL_clique_23 (by decide) ?_
              refine r_icmp_ne C 50 dL_clique_24 (by decide) (fun h24 => ?_) (fun h24 => ?_)
              ·
                have hon : m.testBit j = true → m.testBit i = true → e i j = true := fun _ q => absurd q (by rw [bt_off (by omega) (by omega) h24]; decide)
                refine r_iinc C (nI (j + 1)) [(4, .int (nI (j + 1))), (3, .int (nI i)), (0, .ref (ad 135)), (1, .ref (ad 137)), (2, .int (nI m))] dL_clique_50 (j := 0) rfl (inc_n j 1) (by decide) rfl ?_
                refine r_goto C 12 dL_clique_53 (by decide) ?_
                refine r_lv (lv2 := [(4, .int (nI (j + 1))), (3, .int (nI i)), (0, .ref (ad 135)), (1, .ref (ad 137)), (2, .int (nI m))]) [0, 1, 2, 3, 4] rfl ?_
                exact ih_j (j + 1) (by omega) (by omega) (fun c hc => (Nat.lt_or_eq_of_le (Nat.le_of_lt_succ hc)).elim (hI_j c) (fun q => by rw [q]; exact hon))
              ·
                refine r_iload_n C dL_clique_27 rfl 4 rfl ?_
                refine r_iload C dL_clique_28 0 rfl ?_
                refine r_ishr C dL_clique_30 ?_
                refine r_iconst C (nI 1) dL_clique_31 (by decide) ?_
                refine r_iand C dL_clique_32 ?_
                refine r_iconst C (nI 1) dL_clique_33 (by decide) ?_
                refine r_icmp_ne C 50 dL_clique_34 (by decide) (fun h34 => ?_) (fun h34 => ?_)
                ·
                  have hon : m.testBit j = true → m.testBit i = true → e i j = true := fun q _ => absurd q (by rw [bt_off (by omega) (by omega) h34]; decide)
                  refine r_iinc C (nI (j + 1)) [(4, .int (nI (j + 1))), (3, .int (nI i)), (0, .ref (ad 135)), (1, .ref (ad 137)), (2, .int (nI m))] dL_clique_50 (j := 0) rfl (inc_n j 1) (by decide) rfl ?_
                  refine r_goto C 12 dL_clique_53 (by decide) ?_
                  refine r_lv (lv2 := [(4, .int (nI (j + 1))), (3, .int (nI i)), (0, .ref (ad 135)), (1, .ref (ad 137)), (2, .int (nI m))]) [0, 1, 2, 3, 4] rfl ?_
                  exact ih_j (j + 1) (by omega) (by omega) (fun c hc => (Nat.lt_or_eq_of_le (Nat.le_of_lt_succ hc)).elim (hI_j c) (fun q => by rw [q]; exact hon))
                ·
                  refine r_aload_n C dL_clique_37 rfl 3 rfl ?_
                  refine r_iconst C (nI 4) dL_clique_38 (by decide) ?_
                  refine r_iload_n C dL_clique_39 rfl 1 rfl ?_
                  refine r_imul C dL_clique_40 ?_
                  refine r_topi (pk_mul 4 i) ?_
                  refine r_iload C dL_clique_41 0 rfl ?_
                  refine r_iadd C dL_clique_43 ?_
                  refine r_topi (nI_add (4 * i) j) ?_
                  refine r_iald C (id := 137) (n := 20) (a := (4 * i) + j) (by decide) rfl (by omega) (by decide) dL_clique_44 ?_
                  refine r_topi (w := bI (e i j)) ((tM).2.2.2.1 i j (by omega) (by omega)) ?_
                  refine r_ifB_ne C 50 dL_clique_45 (by decide) (fun h45 => ?_) (fun h45 => ?_)
                  ·
                    have hon : m.testBit j = true → m.testBit i = true → e i j = true := fun _ _ => h45
                    refine r_iinc C (nI (j + 1)) [(4, .int (nI (j + 1))), (3, .int (nI i)), (0, .ref (ad 135)), (1, .ref (ad 137)), (2, .int (nI m))] dL_clique_50 (j := 0) rfl (inc_n j 1) (by decide) rfl ?_
                    refine r_goto C 12 dL_clique_53 (by decide) ?_
                    refine r_lv (lv2 := [(4, .int (nI (j + 1))), (3, .int (nI i)), (0, .ref (ad 135)), (1, .ref (ad 137)), (2, .int (nI m))]) [0, 1, 2, 3, 4] rfl ?_
                    exact ih_j (j + 1) (by omega) (by omega) (fun c hc => (Nat.lt_or_eq_of_le (Nat.le_of_lt_succ hc)).elim (hI_j c) (fun q => by rw [q]; exact hon))
                  ·
                    refine r_iconst C (nI 0) dL_clique_48 (by decide) ?_
                    exact E 0 _ _ _ _ (Nat.le_of_ble_eq_true rfl) dL_clique_49 rfl (⟨cl_n (by omega) he hk hw hm (fun q => absurd (q j i (by omega) (by omega) (bt_on (by omega) (by omega) h34) (bt_on (by omega) (by omega) h24)) (by rw [h45]; decide)), rfl⟩)
        refine r_lv (lv2 := [(4, .int (nI 0)), (3, .int (nI i)), (0, .ref (ad 135)), (1, .ref (ad 137)), (2, .int (nI m))]) [0, 1, 2, 3, 4] rfl ?_
        exact Lq (i + 1) 0 (by omega) (by omega) (fun c h1 => absurd h1 (by omega))
  refine r_lv (lv2 := [(3, .int (nI 0)), (0, .ref (ad 135)), (1, .ref (ad 137)), (2, .int (nI m))]) [0, 1, 2, 3] rfl ?_
  exact Lp (n + 1) 0 (by omega) (by omega) (fun a b h1 h2 => absurd h2 (by omega))
set_option maxRecDepth 100000 in
set_option maxHeartbeats 4000000 in
theorem c_L_colorAt (l : Launch) (D : va_G) (cs : Nat → ClassId) (ad : Nat → Nat) (M : Mm) (c : Nat) (hc : c < 256) (v : Nat) (hv : v < 4) : ∀ sz : Nat, Met l yL_colorAt (.code yL_colorAt cL_colorAt 2 (some .int) :: TT) { frames := 0, cells := 0, slots := 0, locals := 0 } (va_Pc [.int (nI c), .int (nI v)] (fun U9 => U9.heap.size = sz ∧ wB D cs ad (fA ad sz) M U9)) (va_Qi (fun r M2 => r = nI (cda c v) ∧ M2 = M) (wB D cs ad (fA ad sz)) (fA ad sz)) 0 0 (fA ad sz) := by
  refine st_I (by decide) (Nat.le_of_ble_eq_true rfl) (fun κ C E => ?_)
  refine r_lv (lv2 := [(0, .int (nI c)), (1, .int (nI v))]) [0, 1] rfl ?_
  refine r_iload_n C dL_colorAt_0 rfl 0 rfl ?_
  refine r_bipush C (nI 6) dL_colorAt_1 (by decide) ?_
  refine r_iconst C (nI 2) dL_colorAt_3 (by decide) ?_
  refine r_iload_n C dL_colorAt_4 rfl 1 rfl ?_
  refine r_imul C dL_colorAt_5 ?_
  refine r_topi (pk_mul 2 v) ?_
  refine r_isub C dL_colorAt_6 ?_
  refine r_topi (pk_sub (a := 6) (b := 2 * v) (by omega)) ?_
  refine r_ishr C dL_colorAt_7 ?_
  refine r_iconst C (nI 3) dL_colorAt_8 (by decide) ?_
  refine r_iand C dL_colorAt_9 ?_
  exact E 0 _ _ _ _ (Nat.le_of_ble_eq_true rfl) dL_colorAt_10 (⟨cda_e hc hv, rfl⟩)
