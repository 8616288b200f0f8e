/-! ===== the class: a graph as a row, its looks (written by wip/whole/gen/cls1.py) ===== -/
/-- the things of graph g show the row z of n vertices in d dimensions; gi: the handle's thing -/
def gv (M : Mm) (g gi : Nat) (z : Nat → Int32) (n d : Nat) : Prop := M.1 (gO g) 0 = nI n ∧ M.1 (gO g) 1 = nI d ∧ (∀ v, v < n → M.1 (gN g) v = z (10 + v)) ∧ (∀ v, v < n → M.1 (gW g) v = z (2 + v)) ∧ (∀ v p, v < n → p < 4 → M.1 (gR g v) p = z (18 + 4 * v + p)) ∧ ∀ p, p < 4 → M.1 gi p = z (50 + p)
/-- the masks of a row -/
def gm (z : Nat → Int32) (n : Nat) : Prop := ∀ v, v < n → ∃ m, m < 256 ∧ z (10 + v) = nI m
theorem sI_cg {f g : Nat → Int32} : ∀ {n : Nat}, (∀ j, j < n → f j = g j) → sI f n = sI g n
  | 0, _ => rfl
  | n + 1, h => by
    show sI f n + f n = sI g n + g n
    rw [sI_cg (fun j hj => h j (by omega)), h n (by omega)]
def pdI (x y : Nat → Int32) : Int32 := sI (fun p => x p * y p) 4
theorem pd_rr {M : Mm} {g gi : Nat} {z : Nat → Int32} {n d v w : Nat} (h : gv M g gi z n d) (hv : v < n) (hw : w < n) : pdI (M.1 (gR g v)) (M.1 (gR g w)) = dotz z (18 + 4 * v) (18 + 4 * w) := sI_cg (fun p hp => by rw [h.2.2.2.2.1 v p hv hp, h.2.2.2.2.1 w p hw hp])
theorem pd_hr {M : Mm} {g gi : Nat} {z : Nat → Int32} {n d w : Nat} (h : gv M g gi z n d) (hw : w < n) : pdI (M.1 gi) (M.1 (gR g w)) = dotz z 50 (18 + 4 * w) := sI_cg (fun p hp => by rw [h.2.2.2.2.2 p hp, h.2.2.2.2.1 w p hw hp])
theorem pd_hh {M : Mm} {g gi : Nat} {z : Nat → Int32} {n d : Nat} (h : gv M g gi z n d) : pdI (M.1 gi) (M.1 gi) = dotz z 50 50 := sI_cg (fun p hp => by rw [h.2.2.2.2.2 p hp])
theorem bt_and {m b : Nat} (hm : m < 256) (hb : b < 8) : (nI m &&& s1 b = 0) ↔ bt (nI m) b = false := by
  have h : ∀ m : Fin 256, ∀ b : Fin 8, decide (nI m.val &&& s1 b.val = 0) = !(bt (nI m.val) b.val) := by decide +kernel
  have h2 := h ⟨m, hm⟩ ⟨b, hb⟩
  simp only at h2
  cases hq : bt (nI m) b <;> rw [hq] at h2 <;> simp_all
def uf (z : Nat → Int32) (a b : Nat) : Bool := bt (z (10 + a)) b && !decide (dotz z (18 + 4 * a) (18 + 4 * b) = 0)
def upz (z : Nat → Int32) (n a : Nat) : Int32 := fiR (fun b => !decide (b ≤ a) && uf z a b) n
def fuz (z : Nat → Int32) (n : Nat) : Int32 := fiR (fun a => !decide (upz z n a = -1)) n
def ufc (z : Nat → Int32) (n : Nat) : Int32 := sI (fun a => sI (fun b => bI (!decide (b ≤ a) && uf z a b)) n) n
/-- the greatest of 0 and f 0 .. f (k - 1) -/
def mx9 (f : Nat → Int32) : Nat → Int32
  | 0 => nI 0
  | k + 1 => if mx9 f k < f k then f k else mx9 f k
theorem mx_cg {f g : Nat → Int32} : ∀ {n : Nat}, (∀ j, j < n → f j = g j) → mx9 f n = mx9 g n
  | 0, _ => rfl
  | n + 1, h => by
    show (if mx9 f n < f n then f n else mx9 f n) = if mx9 g n < g n then g n else mx9 g n
    rw [mx_cg (fun j hj => h j (by omega)), h n (by omega)]
def ab9 (x : Int32) : Int32 := if 0 ≤ x then x else 0 - x
def fur (x : Nat → Int32) : Int32 := mx9 (fun p => ab9 (x p)) 4
theorem fur_r {M : Mm} {g gi : Nat} {z : Nat → Int32} {n d v : Nat} (h : gv M g gi z n d) (hv : v < n) : fur (M.1 (gR g v)) = fur (fun p => z (18 + 4 * v + p)) := mx_cg (fun p hp => by rw [h.2.2.2.2.1 v p hv hp])
theorem fur_h {M : Mm} {g gi : Nat} {z : Nat → Int32} {n d : Nat} (h : gv M g gi z n d) : fur (M.1 gi) = fur (fun p => z (50 + p)) := mx_cg (fun p hp => by rw [h.2.2.2.2.2 p hp])
/-- Integer.bitCount -/
def bc1 (x : Int32) : Int32 := x - ((x.toUInt32 >>> ((nI 1).toUInt32 &&& Int32.toUInt32 31)).toInt32 &&& 1431655765)
def bc2 (x : Int32) : Int32 := (x &&& 858993459) + ((x.toUInt32 >>> ((nI 2).toUInt32 &&& Int32.toUInt32 31)).toInt32 &&& 858993459)
def bc3 (x : Int32) : Int32 := (x + (x.toUInt32 >>> ((nI 4).toUInt32 &&& Int32.toUInt32 31)).toInt32) &&& 252645135
def bc4 (x : Int32) : Int32 := x + (x.toUInt32 >>> ((nI 8).toUInt32 &&& Int32.toUInt32 31)).toInt32
def bc5 (x : Int32) : Int32 := x + (x.toUInt32 >>> ((nI 16).toUInt32 &&& Int32.toUInt32 31)).toInt32
def bcI (x : Int32) : Int32 := bc5 (bc4 (bc3 (bc2 (bc1 x)))) &&& nI 63
theorem bc_on {m : Nat} (hm : m < 256) : bcI (nI m) = on8 (nI m) := by
  have h : ∀ m : Fin 256, bcI (nI m.val) = on8 (nI m.val) := by decide +kernel
  exact h ⟨m, hm⟩
theorem bc_z {z : Nat → Int32} {n v : Nat} (h : gm z n) (hv : v < n) : bcI (z (10 + v)) = on8 (z (10 + v)) := by
  obtain ⟨m, hm, e⟩ := h v hv
  rw [e]; exact bc_on hm
theorem bt_z {z : Nat → Int32} {n v b : Nat} (h : gm z n) (hv : v < n) (hb : b < 8) : (z (10 + v) &&& s1 b = 0) ↔ bt (z (10 + v)) b = false := by
  obtain ⟨m, hm, e⟩ := h v hv
  rw [e]; exact bt_and hm hb
theorem lt9s {p : Nat → Bool} {k : Nat} (h : ∀ j, j < k → p j = false) (hk : p k = false) : ∀ j, j < k + 1 → p j = false := fun j hj => (Nat.lt_or_eq_of_le (Nat.le_of_lt_succ hj)).elim (h j) (fun e => by rw [e]; exact hk)
theorem sI_0 {f : Nat → Int32} : ∀ {n : Nat}, (∀ j, j < n → f j = nI 0) → sI f n = nI 0
  | 0, _ => rfl
  | n + 1, h => by
    show sI f n + f n = nI 0
    rw [sI_0 (fun j hj => h j (by omega)), h n (by omega)]; rfl
section CV2
variable {l : Launch} {D : va_G} {cs : Nat → ClassId} {ad : Nat → Nat} {nL : Nat} {κ : Kx} {u : Nat} {M : Mm} {pc : Nat} {lv : List (Nat × Value)} {st : List Value} {cc : ByteArray} {own : String} {fr lo U : Nat}
theorem r_alen (C : CX D cs ad cc nL own fr lo U κ) {id n : Nat} (hid : id < 140) (he : wF cs ad id (M.1 id) (M.2 id) = .inl (cs 0, n, .inl (M.1 id))) (d : decode cc pc = .ok (.arraylength, 1)) (k : VV l D cs ad nL κ u M (pc + 1) lv (.int (nI n) :: st)) : VV l D cs ad nL κ u M pc lv (.ref (ad id) :: st) := by
  obtain ⟨p, e, R, s, m, args, below, meth, c, c0, s0, Q⟩ := κ
  obtain ⟨hx, hb, hml, hown, hts, hK, hD, hfr, hlo, hc0, hs0⟩ := C
  intro H locs ls hP hS hl
  exact va_alen hx hb hK hP id 0 (show (wW cs ad M)[id]? = some (ad id, .inl (cs 0, n, .inl (M.1 id))) by rw [wW_get cs ad M hid, he]) rfl rfl d (k H locs ls hP hS hl)
theorem r_lve {lv2 : List (Nat × Value)} (h : lv = lv2) (k : VV l D cs ad nL κ u M pc lv2 st) : VV l D cs ad nL κ u M pc lv st := h ▸ k
end CV2
theorem ad_0 (x : Int32) : x + nI 0 = x := Int32.add_zero x
set_option maxRecDepth 100000 in
set_option maxHeartbeats 4000000 in
theorem c_X7_product (l : Launch) (D : va_G) (cs : Nat → ClassId) (ad : Nat → Nat) (M : Mm) (i1 i2 : Nat) (h1 : i1 < 140) (e1 : ∀ x y, wF cs ad i1 x y = .inl (cs 0, 4, .inl x)) (h2 : i2 < 140) (e2 : ∀ x y, wF cs ad i2 x y = .inl (cs 0, 4, .inl x)) : ∀ sz : Nat, Met l yX7_product (.code yX7_product cX7_product 4 (some .int) :: TT) { frames := 0, cells := 0, slots := 0, locals := 0 } (va_Pc [.ref (ad i1), .ref (ad i2)] (fun U9 => U9.heap.size = sz ∧ wB D cs ad (fA ad sz) M U9)) (va_Qi (fun r M2 => r = pdI (M.1 i1) (M.1 i2) ∧ M2 = M) (wB D cs ad (fA ad sz)) (fA ad sz)) 0 0 (fA ad sz) := by
  refine st_I (by decide) (Nat.le_of_ble_eq_true rfl) (fun κ C E => ?_)
  refine r_lv (lv2 := [(0, .ref (ad i1)), (1, .ref (ad i2))]) [0, 1] rfl ?_
  refine r_iconst C (nI 0) dX7_product_0 (by decide) ?_
  refine r_istore_n C [(2, .int (nI 0)), (0, .ref (ad i1)), (1, .ref (ad i2))] dX7_product_1 rfl (by decide) rfl ?_
  refine r_iconst C (nI 0) dX7_product_2 (by decide) ?_
  refine r_istore_n C [(3, .int (nI 0)), (2, .int (nI 0)), (0, .ref (ad i1)), (1, .ref (ad i2))] dX7_product_3 rfl (by decide) rfl ?_
  have Lp : ∀ (f k : Nat), 4 + 1 ≤ k + f → k ≤ 4 → VV l D cs ad 4 κ 0 M 4 [(3, .int (nI k)), (2, .int (sI (fun p => M.1 i1 p * M.1 i2 p) k)), (0, .ref (ad i1)), (1, .ref (ad i2))] [] := by
    intro f
    induction f with
    | zero => intro k hk1 hk2; exact absurd hk1 (by omega)
    | succ f ih =>
      intro k hk1 hk2
      refine r_iload_n C dX7_product_4 rfl 0 rfl ?_
      refine r_iconst C (nI 4) dX7_product_5 (by decide) ?_
      refine r_icmpN_ge C 25 dX7_product_6 (by decide) (by omega) (by omega) (fun h6 => ?_) (fun h6 => ?_)
      ·
        have hk9 : 4 = k := by omega
        subst hk9
        refine r_iload_n C dX7_product_25 rfl 1 rfl ?_
        exact E 0 _ _ _ _ (Nat.le_of_ble_eq_true rfl) dX7_product_26 (⟨rfl, rfl⟩)
      ·
        refine r_iload_n C dX7_product_9 rfl 1 rfl ?_
        refine r_aload_n C dX7_product_10 rfl 2 rfl ?_
        refine r_iload_n C dX7_product_11 rfl 0 rfl ?_
        refine r_iald C (id := i1) (n := 4) (a := k) h1 (e1 _ _) (by omega) (by decide) dX7_product_12 ?_
        refine r_aload_n C dX7_product_13 rfl 3 rfl ?_
        refine r_iload_n C dX7_product_14 rfl 0 rfl ?_
        refine r_iald C (id := i2) (n := 4) (a := k) h2 (e2 _ _) (by omega) (by decide) dX7_product_15 ?_
        refine r_imul C dX7_product_16 ?_
        refine r_iadd C dX7_product_17 ?_
        refine r_istore_n C [(2, .int ((sI (fun p => M.1 i1 p * M.1 i2 p) k) + ((M.1 i1 k) * (M.1 i2 k)))), (3, .int (nI k)), (0, .ref (ad i1)), (1, .ref (ad i2))] dX7_product_18 rfl (by decide) rfl ?_
        refine r_iinc C (nI (k + 1)) [(3, .int (nI (k + 1))), (2, .int ((sI (fun p => M.1 i1 p * M.1 i2 p) k) + ((M.1 i1 k) * (M.1 i2 k)))), (0, .ref (ad i1)), (1, .ref (ad i2))] dX7_product_19 (j := 1) rfl (inc_n k 1) (by decide) rfl ?_
        refine r_goto C 4 dX7_product_22 (by decide) ?_
        refine r_lv (lv2 := [(3, .int (nI (k + 1))), (2, .int (sI (fun p => M.1 i1 p * M.1 i2 p) (k + 1))), (0, .ref (ad i1)), (1, .ref (ad i2))]) [0, 1, 2, 3] rfl ?_
        exact ih (k + 1) (by omega) (by omega)
  refine r_lv (lv2 := [(3, .int (nI 0)), (2, .int (sI (fun p => M.1 i1 p * M.1 i2 p) 0)), (0, .ref (ad i1)), (1, .ref (ad i2))]) [0, 1, 2, 3] rfl ?_
  exact Lp (4 + 1) 0 (by omega) (by omega)
set_option maxRecDepth 100000 in
set_option maxHeartbeats 4000000 in
theorem c_bitCount (l : Launch) (D : va_G) (cs : Nat → ClassId) (ad : Nat → Nat) (M : Mm) (x : Int32) : ∀ sz : Nat, Met l yJ6_bitCount_0f7a4 (.code yJ6_bitCount_0f7a4 cJ6_bitCount_0f7a4 1 (some .int) :: TT) { frames := 0, cells := 0, slots := 0, locals := 0 } (va_Pc [.int x] (fun U9 => U9.heap.size = sz ∧ wB D cs ad (fA ad sz) M U9)) (va_Qi (fun r M2 => r = bcI x ∧ M2 = M) (wB D cs ad (fA ad sz)) (fA ad sz)) 0 0 (fA ad sz) := by
  refine st_I (by decide) (Nat.le_of_ble_eq_true rfl) (fun κ C E => ?_)
  refine r_lv (lv2 := [(0, .int x)]) [0] rfl ?_
  refine r_iload_n C dJ6_bitCount_0f7a4_0 rfl 0 rfl ?_
  refine r_iload_n C dJ6_bitCount_0f7a4_1 rfl 0 rfl ?_
  refine r_iconst C (nI 1) dJ6_bitCount_0f7a4_2 (by decide) ?_
  refine r_iushr C dJ6_bitCount_0f7a4_3 ?_
  refine r_ldcw C (1431655765) k_J6_265 dJ6_bitCount_0f7a4_4 ?_
  refine r_iand C dJ6_bitCount_0f7a4_7 ?_
  refine r_isub C dJ6_bitCount_0f7a4_8 ?_
  refine r_istore_n C [(0, .int (x - (((x.toUInt32 >>> ((nI 1).toUInt32 &&& Int32.toUInt32 31)).toInt32) &&& (1431655765))))] dJ6_bitCount_0f7a4_9 rfl (by decide) rfl ?_
  refine r_iload_n C dJ6_bitCount_0f7a4_10 rfl 0 rfl ?_
  refine r_ldcw C (858993459) k_J6_266 dJ6_bitCount_0f7a4_11 ?_
  refine r_iand C dJ6_bitCount_0f7a4_14 ?_
  refine r_iload_n C dJ6_bitCount_0f7a4_15 rfl 0 rfl ?_
  refine r_iconst C (nI 2) dJ6_bitCount_0f7a4_16 (by decide) ?_
  refine r_iushr C dJ6_bitCount_0f7a4_17 ?_
  refine r_ldcw C (858993459) k_J6_266 dJ6_bitCount_0f7a4_18 ?_
  refine r_iand C dJ6_bitCount_0f7a4_21 ?_
  refine r_iadd C dJ6_bitCount_0f7a4_22 ?_
  refine r_istore_n C [(0, .int (((x - (((x.toUInt32 >>> ((nI 1).toUInt32 &&& Int32.toUInt32 31)).toInt32) &&& (1431655765))) &&& (858993459)) + ((((x - (((x.toUInt32 >>> ((nI 1).toUInt32 &&& Int32.toUInt32 31)).toInt32) &&& (1431655765))).toUInt32 >>> ((nI 2).toUInt32 &&& Int32.toUInt32 31)).toInt32) &&& (858993459))))] dJ6_bitCount_0f7a4_23 rfl (by decide) rfl ?_
  refine r_iload_n C dJ6_bitCount_0f7a4_24 rfl 0 rfl ?_
  refine r_iload_n C dJ6_bitCount_0f7a4_25 rfl 0 rfl ?_
  refine r_iconst C (nI 4) dJ6_bitCount_0f7a4_26 (by decide) ?_
  refine r_iushr C dJ6_bitCount_0f7a4_27 ?_
  refine r_iadd C dJ6_bitCount_0f7a4_28 ?_
  refine r_ldcw C (252645135) k_J6_267 dJ6_bitCount_0f7a4_29 ?_
  refine r_iand C dJ6_bitCount_0f7a4_32 ?_
  refine r_istore_n C [(0, .int (((((x - (((x.toUInt32 >>> ((nI 1).toUInt32 &&& Int32.toUInt32 31)).toInt32) &&& (1431655765))) &&& (858993459)) + ((((x - (((x.toUInt32 >>> ((nI 1).toUInt32 &&& Int32.toUInt32 31)).toInt32) &&& (1431655765))).toUInt32 >>> ((nI 2).toUInt32 &&& Int32.toUInt32 31)).toInt32) &&& (858993459))) + (((((x - (((x.toUInt32 >>> ((nI 1).toUInt32 &&& Int32.toUInt32 31)).toInt32) &&& (1431655765))) &&& (858993459)) + ((((x - (((x.toUInt32 >>> ((nI 1).toUInt32 &&& Int32.toUInt32 31)).toInt32) &&& (1431655765))).toUInt32 >>> ((nI 2).toUInt32 &&& Int32.toUInt32 31)).toInt32) &&& (858993459))).toUInt32 >>> ((nI 4).toUInt32 &&& Int32.toUInt32 31)).toInt32)) &&& (252645135)))] dJ6_bitCount_0f7a4_33 rfl (by decide) rfl ?_
  refine r_iload_n C dJ6_bitCount_0f7a4_34 rfl 0 rfl ?_
  refine r_iload_n C dJ6_bitCount_0f7a4_35 rfl 0 rfl ?_
  refine r_bipush C (nI 8) dJ6_bitCount_0f7a4_36 (by decide) ?_
  refine r_iushr C dJ6_bitCount_0f7a4_38 ?_
  refine r_iadd C dJ6_bitCount_0f7a4_39 ?_
  refine r_istore_n C [(0, .int ((((((x - (((x.toUInt32 >>> ((nI 1).toUInt32 &&& Int32.toUInt32 31)).toInt32) &&& (1431655765))) &&& (858993459)) + ((((x - (((x.toUInt32 >>> ((nI 1).toUInt32 &&& Int32.toUInt32 31)).toInt32) &&& (1431655765))).toUInt32 >>> ((nI 2).toUInt32 &&& Int32.toUInt32 31)).toInt32) &&& (858993459))) + (((((x - (((x.toUInt32 >>> ((nI 1).toUInt32 &&& Int32.toUInt32 31)).toInt32) &&& (1431655765))) &&& (858993459)) + ((((x - (((x.toUInt32 >>> ((nI 1).toUInt32 &&& Int32.toUInt32 31)).toInt32) &&& (1431655765))).toUInt32 >>> ((nI 2).toUInt32 &&& Int32.toUInt32 31)).toInt32) &&& (858993459))).toUInt32 >>> ((nI 4).toUInt32 &&& Int32.toUInt32 31)).toInt32)) &&& (252645135)) + (((((((x - (((x.toUInt32 >>> ((nI 1).toUInt32 &&& Int32.toUInt32 31)).toInt32) &&& (1431655765))) &&& (858993459)) + ((((x - (((x.toUInt32 >>> ((nI 1).toUInt32 &&& Int32.toUInt32 31)).toInt32) &&& (1431655765))).toUInt32 >>> ((nI 2).toUInt32 &&& Int32.toUInt32 31)).toInt32) &&& (858993459))) + (((((x - (((x.toUInt32 >>> ((nI 1).toUInt32 &&& Int32.toUInt32 31)).toInt32) &&& (1431655765))) &&& (858993459)) + ((((x - (((x.toUInt32 >>> ((nI 1).toUInt32 &&& Int32.toUInt32 31)).toInt32) &&& (1431655765))).toUInt32 >>> ((nI 2).toUInt32 &&& Int32.toUInt32 31)).toInt32) &&& (858993459))).toUInt32 >>> ((nI 4).toUInt32 &&& Int32.toUInt32 31)).toInt32)) &&& (252645135)).toUInt32 >>> ((nI 8).toUInt32 &&& Int32.toUInt32 31)).toInt32)))] dJ6_bitCount_0f7a4_40 rfl (by decide) rfl ?_
  refine r_iload_n C dJ6_bitCount_0f7a4_41 rfl 0 rfl ?_
  refine r_iload_n C dJ6_bitCount_0f7a4_42 rfl 0 rfl ?_
  refine r_bipush C (nI 16) dJ6_bitCount_0f7a4_43 (by decide) ?_
  refine r_iushr C dJ6_bitCount_0f7a4_45 ?_
  refine r_iadd C dJ6_bitCount_0f7a4_46 ?_
  refine r_istore_n C [(0, .int (((((((x - (((x.toUInt32 >>> ((nI 1).toUInt32 &&& Int32.toUInt32 31)).toInt32) &&& (1431655765))) &&& (858993459)) + ((((x - (((x.toUInt32 >>> ((nI 1).toUInt32 &&& Int32.toUInt32 31)).toInt32) &&& (1431655765))).toUInt32 >>> ((nI 2).toUInt32 &&& Int32.toUInt32 31)).toInt32) &&& (858993459))) + (((((x - (((x.toUInt32 >>> ((nI 1).toUInt32 &&& Int32.toUInt32 31)).toInt32) &&& (1431655765))) &&& (858993459)) + ((((x - (((x.toUInt32 >>> ((nI 1).toUInt32 &&& Int32.toUInt32 31)).toInt32) &&& (1431655765))).toUInt32 >>> ((nI 2).toUInt32 &&& Int32.toUInt32 31)).toInt32) &&& (858993459))).toUInt32 >>> ((nI 4).toUInt32 &&& Int32.toUInt32 31)).toInt32)) &&& (252645135)) + (((((((x - (((x.toUInt32 >>> ((nI 1).toUInt32 &&& Int32.toUInt32 31)).toInt32) &&& (1431655765))) &&& (858993459)) + ((((x - (((x.toUInt32 >>> ((nI 1).toUInt32 &&& Int32.toUInt32 31)).toInt32) &&& (1431655765))).toUInt32 >>> ((nI 2).toUInt32 &&& Int32.toUInt32 31)).toInt32) &&& (858993459))) + (((((x - (((x.toUInt32 >>> ((nI 1).toUInt32 &&& Int32.toUInt32 31)).toInt32) &&& (1431655765))) &&& (858993459)) + ((((x - (((x.toUInt32 >>> ((nI 1).toUInt32 &&& Int32.toUInt32 31)).toInt32) &&& (1431655765))).toUInt32 >>> ((nI 2).toUInt32 &&& Int32.toUInt32 31)).toInt32) &&& (858993459))).toUInt32 >>> ((nI 4).toUInt32 &&& Int32.toUInt32 31)).toInt32)) &&& (252645135)).toUInt32 >>> ((nI 8).toUInt32 &&& Int32.toUInt32 31)).toInt32)) + ((((((((x - (((x.toUInt32 >>> ((nI 1).toUInt32 &&& Int32.toUInt32 31)).toInt32) &&& (1431655765))) &&& (858993459)) + ((((x - (((x.toUInt32 >>> ((nI 1).toUInt32 &&& Int32.toUInt32 31)).toInt32) &&& (1431655765))).toUInt32 >>> ((nI 2).toUInt32 &&& Int32.toUInt32 31)).toInt32) &&& (858993459))) + (((((x - (((x.toUInt32 >>> ((nI 1).toUInt32 &&& Int32.toUInt32 31)).toInt32) &&& (1431655765))) &&& (858993459)) + ((((x - (((x.toUInt32 >>> ((nI 1).toUInt32 &&& Int32.toUInt32 31)).toInt32) &&& (1431655765))).toUInt32 >>> ((nI 2).toUInt32 &&& Int32.toUInt32 31)).toInt32) &&& (858993459))).toUInt32 >>> ((nI 4).toUInt32 &&& Int32.toUInt32 31)).toInt32)) &&& (252645135)) + (((((((x - (((x.toUInt32 >>> ((nI 1).toUInt32 &&& Int32.toUInt32 31)).toInt32) &&& (1431655765))) &&& (858993459)) + ((((x - (((x.toUInt32 >>> ((nI 1).toUInt32 &&& Int32.toUInt32 31)).toInt32) &&& (1431655765))).toUInt32 >>> ((nI 2).toUInt32 &&& Int32.toUInt32 31)).toInt32) &&& (858993459))) + (((((x - (((x.toUInt32 >>> ((nI 1).toUInt32 &&& Int32.toUInt32 31)).toInt32) &&& (1431655765))) &&& (858993459)) + ((((x - (((x.toUInt32 >>> ((nI 1).toUInt32 &&& Int32.toUInt32 31)).toInt32) &&& (1431655765))).toUInt32 >>> ((nI 2).toUInt32 &&& Int32.toUInt32 31)).toInt32) &&& (858993459))).toUInt32 >>> ((nI 4).toUInt32 &&& Int32.toUInt32 31)).toInt32)) &&& (252645135)).toUInt32 >>> ((nI 8).toUInt32 &&& Int32.toUInt32 31)).toInt32)).toUInt32 >>> ((nI 16).toUInt32 &&& Int32.toUInt32 31)).toInt32)))] dJ6_bitCount_0f7a4_47 rfl (by decide) rfl ?_
  refine r_iload_n C dJ6_bitCount_0f7a4_48 rfl 0 rfl ?_
  refine r_bipush C (nI 63) dJ6_bitCount_0f7a4_49 (by decide) ?_
  refine r_iand C dJ6_bitCount_0f7a4_51 ?_
  exact E 0 _ _ _ _ (Nat.le_of_ble_eq_true rfl) dJ6_bitCount_0f7a4_52 (⟨rfl, rfl⟩)
set_option maxRecDepth 100000 in
set_option maxHeartbeats 4000000 in
theorem c_X4_areJoined (l : Launch) (D : va_G) (cs : Nat → ClassId) (ad : Nat → Nat) (M : Mm) (g : Nat) (hg9 : g < 9) (gi : Nat) (z : Nat → Int32) (n d : Nat) (hg : gv M g gi z n d) (hn8 : n ≤ 8) (hm : gm z n) (a b : Nat) (ha : a < n) (hb : b < 8) : ∀ sz : Nat, Met l yX4_areJoined (.code yX4_areJoined cX4_areJoined 3 (some .boolean) :: TT) { frames := 0, cells := 0, slots := 0, locals := 0 } (va_Pc [.ref (ad (gO g)), .int (nI a), .int (nI b)] (fun U9 => U9.heap.size = sz ∧ wB D cs ad (fA ad sz) M U9)) (va_Qi (fun r M2 => r = bI (bt (z (10 + a)) b) ∧ M2 = M) (wB D cs ad (fA ad sz)) (fA ad sz)) 0 0 (fA ad sz) := by
  refine st_Z (by decide) (Nat.le_of_ble_eq_true rfl) (fun κ C E => ?_)
  refine r_lv (lv2 := [(0, .ref (ad (gO g))), (1, .int (nI a)), (2, .int (nI b))]) [0, 1, 2] rfl ?_
  refine r_aload_n C dX4_areJoined_0 rfl 0 rfl ?_
  refine r_get C (Cn := RX4) (T := TX4) (N := 6) (id := (gO g)) (by simp only [gO, gN, gW, gL, gR, gH] <;> omega) inw_X4 (wF_O cs ad (by omega) _ _) rfl 2 (by decide) rfl fl_X4_18 rfl dX4_areJoined_1 ?_
  refine r_iload_n C dX4_areJoined_4 rfl 1 rfl ?_
  refine r_iald C (id := (gN g)) (n := 8) (a := a) (by simp only [gO, gN, gW, gL, gR, gH] <;> omega) (wF_N cs ad (by omega) _ _) (by omega) (by decide) dX4_areJoined_5 ?_
  refine r_topi (w := (z (10 + a))) (hg.2.2.1 a (by omega)) ?_
  refine r_iconst C (nI 1) dX4_areJoined_6 (by decide) ?_
  refine r_iload_n C dX4_areJoined_7 rfl 2 rfl ?_
  refine r_ishl C dX4_areJoined_8 ?_
  refine r_topi (w := s1 b) rfl ?_
  refine r_iand C dX4_areJoined_9 ?_
  refine r_if_eq C 17 dX4_areJoined_10 (by decide) (fun h10 => ?_) (fun h10 => ?_)
  ·
    refine r_iconst C (nI 0) dX4_areJoined_17 (by decide) ?_
    exact E 0 _ _ _ _ (Nat.le_of_ble_eq_true rfl) dX4_areJoined_18 rfl (⟨bI_off ((bt_z hm ha hb).mp h10), rfl⟩)
  ·
    refine r_iconst C (nI 1) dX4_areJoined_13 (by decide) ?_
    refine r_goto C 18 dX4_areJoined_14 (by decide) ?_
    exact E 0 _ _ _ _ (Nat.le_of_ble_eq_true rfl) dX4_areJoined_18 rfl (⟨bI_on (by cases hq : bt (z (10 + a)) b with | true => rfl | false => exact absurd ((bt_z hm ha hb).mpr hq) h10), rfl⟩)
set_option maxRecDepth 100000 in
set_option maxHeartbeats 4000000 in
theorem c_X4_edges (l : Launch) (D : va_G) (cs : Nat → ClassId) (ad : Nat → Nat) (M : Mm) (g : Nat) (hg9 : g < 9) (gi : Nat) (z : Nat → Int32) (n d : Nat) (hg : gv M g gi z n d) (hn8 : n ≤ 8) (hm : gm z n) : ∀ sz : Nat, Met l yX4_edges (.code yX4_edges cX4_edges 3 (some .int) :: TT) { frames := 1, cells := 0, slots := 0, locals := 20 } (va_Pc [.ref (ad (gO g))] (fun U9 => U9.heap.size = sz ∧ wB D cs ad (fA ad sz) M U9)) (va_Qi (fun r M2 => r = edz z n ∧ M2 = M) (wB D cs ad (fA ad sz)) (fA ad sz)) 0 0 (fA ad sz) := by
  refine st_I (by decide) (Nat.le_of_ble_eq_true rfl) (fun κ C E => ?_)
  refine r_lv (lv2 := [(0, .ref (ad (gO g)))]) [0] rfl ?_
  refine r_iconst C (nI 0) dX4_edges_0 (by decide) ?_
  refine r_istore_n C [(1, .int (nI 0)), (0, .ref (ad (gO g)))] dX4_edges_1 rfl (by decide) rfl ?_
  refine r_iconst C (nI 0) dX4_edges_2 (by decide) ?_
  refine r_istore_n C [(2, .int (nI 0)), (1, .int (nI 0)), (0, .ref (ad (gO g)))] dX4_edges_3 rfl (by decide) rfl ?_
  have Lp : ∀ (f k : Nat), n + 1 ≤ k + f → k ≤ n → VV l D cs ad 3 κ 0 M 4 [(2, .int (nI k)), (1, .int (sI (fun v => on8 (z (10 + v))) k)), (0, .ref (ad (gO g)))] [] := by
    intro f
    induction f with
    | zero => intro k hk1 hk2; exact absurd hk1 (by omega)
    | succ f ih =>
      intro k hk1 hk2
      refine r_iload_n C dX4_edges_4 rfl 0 rfl ?_
      refine r_aload_n C dX4_edges_5 rfl 2 rfl ?_
      refine r_get C (Cn := RX4) (T := TX4) (N := 6) (id := (gO g)) (by simp only [gO, gN, gW, gL, gR, gH] <;> omega) inw_X4 (wF_O cs ad (by omega) _ _) rfl 0 (by decide) rfl fl_X4_9 rfl dX4_edges_6 ?_
      refine r_topi (w := nI n) hg.1 ?_
      refine r_icmpN_ge C 30 dX4_edges_9 (by decide) (by omega) (by omega) (fun h9 => ?_) (fun h9 => ?_)
      ·
        have hk9 : n = k := by omega
        subst hk9
        refine r_iload_n C dX4_edges_30 rfl 1 rfl ?_
        refine r_iconst C (nI 2) dX4_edges_31 (by decide) ?_
        refine r_idiv C dX4_edges_32 (by decide) ?_
        exact E 0 _ _ _ _ (Nat.le_of_ble_eq_true rfl) dX4_edges_33 (⟨rfl, rfl⟩)
      ·
        refine r_iload_n C dX4_edges_12 rfl 1 rfl ?_
        refine r_aload_n C dX4_edges_13 rfl 2 rfl ?_
        refine r_get C (Cn := RX4) (T := TX4) (N := 6) (id := (gO g)) (by simp only [gO, gN, gW, gL, gR, gH] <;> omega) inw_X4 (wF_O cs ad (by omega) _ _) rfl 2 (by decide) rfl fl_X4_18 rfl dX4_edges_14 ?_
        refine r_iload_n C dX4_edges_17 rfl 0 rfl ?_
        refine r_iald C (id := (gN g)) (n := 8) (a := k) (by simp only [gO, gN, gW, gL, gR, gH] <;> omega) (wF_N cs ad (by omega) _ _) (by omega) (by decide) dX4_edges_18 ?_
        refine r_topi (w := (z (10 + k))) (hg.2.2.1 k (by omega)) ?_
        refine r_pcallS2_i (nA := 1) C (Nat.le_of_ble_eq_true rfl) [.int (z (10 + k))] (c_bitCount l D cs ad M (z (10 + k)) ) (tt_S2 ml_X4_45 st_J6_bitCount_0f7a4 in_J6 co_J6_bitCount_0f7a4) ⟨rfl, rfl⟩ ⟨by decide, by decide, by decide⟩ ⟨Nat.le_of_ble_eq_true rfl, Nat.le_of_ble_eq_true rfl⟩ rfl rfl (Nat.le_of_ble_eq_true rfl) dX4_edges_19 ?_
        refine r_topi (w := (on8 (z (10 + k)))) (bc_z hm (by omega)) ?_
        refine r_iadd C dX4_edges_22 ?_
        refine r_istore_n C [(1, .int ((sI (fun v => on8 (z (10 + v))) k) + (on8 (z (10 + k))))), (2, .int (nI k)), (0, .ref (ad (gO g)))] dX4_edges_23 rfl (by decide) rfl ?_
        refine r_iinc C (nI (k + 1)) [(2, .int (nI (k + 1))), (1, .int ((sI (fun v => on8 (z (10 + v))) k) + (on8 (z (10 + k))))), (0, .ref (ad (gO g)))] dX4_edges_24 (j := 1) rfl (inc_n k 1) (by decide) rfl ?_
        refine r_goto C 4 dX4_edges_27 (by decide) ?_
        refine r_lv (lv2 := [(2, .int (nI (k + 1))), (1, .int (sI (fun v => on8 (z (10 + v))) (k + 1))), (0, .ref (ad (gO g)))]) [0, 1, 2] rfl ?_
        exact ih (k + 1) (by omega) (by omega)
  refine r_lv (lv2 := [(2, .int (nI 0)), (1, .int (sI (fun v => on8 (z (10 + v))) 0)), (0, .ref (ad (gO g)))]) [0, 1, 2] rfl ?_
  exact Lp (n + 1) 0 (by omega) (by omega)
set_option maxRecDepth 100000 in
set_option maxHeartbeats 4000000 in
theorem c_X4_unfit (l : Launch) (D : va_G) (cs : Nat → ClassId) (ad : Nat → Nat) (M : Mm) (g : Nat) (hg9 : g < 9) (gi : Nat) (z : Nat → Int32) (n d : Nat) (hg : gv M g gi z n d) (hn8 : n ≤ 8) (hm : gm z n) (a b : Nat) (ha : a < n) (hb : b < n) : ∀ sz : Nat, Met l yX4_unfit (.code yX4_unfit cX4_unfit 3 (some .boolean) :: TT) { frames := 1, cells := 0, slots := 0, locals := 23 } (va_Pc [.ref (ad (gO g)), .int (nI a), .int (nI b)] (fun U9 => U9.heap.size = sz ∧ wB D cs ad (fA ad sz) M U9 ∧ xX (fA ad sz) U9 U9.heap)) (va_Qi (fun r M2 => r = bI (uf z a b) ∧ M2 = M) (wB D cs ad (fA ad sz)) (fA ad sz)) 0 0 (fA ad sz) := by
  refine sn_Z (by decide) (Nat.le_of_ble_eq_true rfl) (fun κ C hN E => ?_)
  refine r_lv (lv2 := [(0, .ref (ad (gO g))), (1, .int (nI a)), (2, .int (nI b))]) [0, 1, 2] rfl ?_
  refine r_aload_n C dX4_unfit_0 rfl 0 rfl ?_
  refine r_iload_n C dX4_unfit_1 rfl 1 rfl ?_
  refine r_iload_n C dX4_unfit_2 rfl 2 rfl ?_
  refine r_pcallV_i (nA := 2) C (Nat.le_of_ble_eq_true rfl) [.int (nI a), .int (nI b)] (c_X4_areJoined l D cs ad M g  hg9 gi z n d hg hn8 hm a b (by omega) (by omega)) (tt_V ml_X4_63 im_X4_areJoined se_X4_areJoined in_X4 co_X4_areJoined) ⟨rfl, rfl⟩ ⟨rfl, by decide, by decide, by decide⟩ ⟨Nat.le_of_ble_eq_true rfl, Nat.le_of_ble_eq_true rfl⟩ (by simp only [gO, gN, gW, gL, gR, gH] <;> omega) (wF_O cs ad (by omega) _ _) rfl rfl rfl rfl (Nat.le_of_ble_eq_true rfl) dX4_unfit_3 ?_
  refine r_ifB_eq C 31 dX4_unfit_6 (by decide) (fun h6 => ?_) (fun h6 => ?_)
  ·
    refine r_iconst C (nI 0) dX4_unfit_31 (by decide) ?_
    exact E 0 _ _ _ _ (Nat.le_of_ble_eq_true rfl) dX4_unfit_32 rfl (⟨bI_off (by simp [uf, h6]), rfl⟩)
  ·
    refine r_aload_n C dX4_unfit_9 rfl 0 rfl ?_
    refine r_get C (Cn := RX4) (T := TX4) (N := 6) (id := (gO g)) (by simp only [gO, gN, gW, gL, gR, gH] <;> omega) inw_X4 (wF_O cs ad (by omega) _ _) rfl 4 (by decide) rfl fl_X4_27 rfl dX4_unfit_10 ?_
    refine r_iload_n C dX4_unfit_13 rfl 1 rfl ?_
    refine r_aald C (id := (gL g)) (n := 8) (a := a) (id2 := (gR g a)) (t0 := 4) (by simp only [gO, gN, gW, gL, gR, gH] <;> omega) (wF_L cs ad (by omega) _ _) rfl rfl (by omega) (by decide) (if_pos (by omega)) dX4_unfit_14 ?_
    refine r_aload_n C dX4_unfit_15 rfl 0 rfl ?_
    refine r_get C (Cn := RX4) (T := TX4) (N := 6) (id := (gO g)) (by simp only [gO, gN, gW, gL, gR, gH] <;> omega) inw_X4 (wF_O cs ad (by omega) _ _) rfl 4 (by decide) rfl fl_X4_27 rfl dX4_unfit_16 ?_
    refine r_iload_n C dX4_unfit_19 rfl 2 rfl ?_
    refine r_aald C (id := (gL g)) (n := 8) (a := b) (id2 := (gR g b)) (t0 := 4) (by simp only [gO, gN, gW, gL, gR, gH] <;> omega) (wF_L cs ad (by omega) _ _) rfl rfl (by omega) (by decide) (if_pos (by omega)) dX4_unfit_20 ?_
    refine r_nest_i (nA := 2) C hN (Nat.le_of_ble_eq_true rfl) (r9 := (pdI (M.1 (gR g a)) (M.1 (gR g b)))) [.ref (ad (gR g a)), .ref (ad (gR g b))] (c_X7_product l D cs ad M (gR g a) (gR g b) (by simp only [gO, gN, gW, gL, gR, gH] <;> omega) (fun _ _ => (wF_R cs ad (by omega) (by omega) _ _)) (by simp only [gO, gN, gW, gL, gR, gH] <;> omega) (fun _ _ => (wF_R cs ad (by omega) (by omega) _ _))) (List.mem_of_getElem? (i := 0) rfl) st_X7_product in_X7 co_X7_product ⟨rfl, rfl⟩ ⟨by decide, by decide, by decide⟩ ⟨Nat.le_of_ble_eq_true rfl, Nat.le_of_ble_eq_true rfl⟩ rfl rfl (Nat.le_of_ble_eq_true rfl) dX4_unfit_21 ?_
    refine r_topi (w := (dotz z (18 + 4 * a) (18 + 4 * b))) (pd_rr hg (by omega) (by omega)) ?_
    refine r_if_eq C 31 dX4_unfit_24 (by decide) (fun h24 => ?_) (fun h24 => ?_)
    ·
      refine r_iconst C (nI 0) dX4_unfit_31 (by decide) ?_
      exact E 0 _ _ _ _ (Nat.le_of_ble_eq_true rfl) dX4_unfit_32 rfl (⟨bI_off (by simp [uf, h6, h24]), rfl⟩)
    ·
      refine r_iconst C (nI 1) dX4_unfit_27 (by decide) ?_
      refine r_goto C 32 dX4_unfit_28 (by decide) ?_
      exact E 0 _ _ _ _ (Nat.le_of_ble_eq_true rfl) dX4_unfit_32 rfl (⟨bI_on (by simp [uf, h6, h24]), rfl⟩)
set_option maxRecDepth 100000 in
set_option maxHeartbeats 4000000 in
theorem c_X4_unfitPartner (l : Launch) (D : va_G) (cs : Nat → ClassId) (ad : Nat → Nat) (M : Mm) (g : Nat) (hg9 : g < 9) (gi : Nat) (z : Nat → Int32) (n d : Nat) (hg : gv M g gi z n d) (hn8 : n ≤ 8) (hm : gm z n) (a : Nat) (ha : a < n) : ∀ sz : Nat, Met l yX4_unfitPartner (.code yX4_unfitPartner cX4_unfitPartner 3 (some .int) :: TT) { frames := 2, cells := 0, slots := 0, locals := 45 } (va_Pc [.ref (ad (gO g)), .int (nI a)] (fun U9 => U9.heap.size = sz ∧ wB D cs ad (fA ad sz) M U9 ∧ xX (fA ad sz) U9 U9.heap)) (va_Qi (fun r M2 => r = upz z n a ∧ M2 = M) (wB D cs ad (fA ad sz)) (fA ad sz)) 0 0 (fA ad sz) := by
  refine sn_I (by decide) (Nat.le_of_ble_eq_true rfl) (fun κ C hN E => ?_)
  refine r_lv (lv2 := [(0, .ref (ad (gO g))), (1, .int (nI a))]) [0, 1] rfl ?_
  refine r_iload_n C dX4_unfitPartner_0 rfl 1 rfl ?_
  refine r_iconst C (nI 1) dX4_unfitPartner_1 (by decide) ?_
  refine r_iadd C dX4_unfitPartner_2 ?_
  refine r_topi (nI_add a 1) ?_
  refine r_istore_n C [(2, .int (nI (a + 1))), (0, .ref (ad (gO g))), (1, .int (nI a))] dX4_unfitPartner_3 rfl (by decide) rfl ?_
  have Lp : ∀ (f k : Nat), n + 1 ≤ k + f → k ≤ n → (a < k ∧ ∀ j, j < k → (!decide (j ≤ a) && uf z a j) = false) → VV l D cs ad 3 κ 0 M 4 [(2, .int (nI k)), (0, .ref (ad (gO g))), (1, .int (nI a))] [] := by
    intro f
    induction f with
    | zero => intro k hk1 hk2 hI; exact absurd hk1 (by omega)
    | succ f ih =>
      intro k hk1 hk2 hI
      refine r_iload_n C dX4_unfitPartner_4 rfl 0 rfl ?_
      refine r_aload_n C dX4_unfitPartner_5 rfl 1 rfl ?_
      refine r_get C (Cn := RX4) (T := TX4) (N := 6) (id := (gO g)) (by simp only [gO, gN, gW, gL, gR, gH] <;> omega) inw_X4 (wF_O cs ad (by omega) _ _) rfl 0 (by decide) rfl fl_X4_9 rfl dX4_unfitPartner_6 ?_
      refine r_topi (w := nI n) hg.1 ?_
      refine r_icmpN_ge C 29 dX4_unfitPartner_9 (by decide) (by omega) (by omega) (fun h9 => ?_) (fun h9 => ?_)
      ·
        have hk9 : n = k := by omega
        subst hk9
        refine r_iconst C ((-1)) dX4_unfitPartner_29 (by decide) ?_
        exact E 0 _ _ _ _ (Nat.le_of_ble_eq_true rfl) dX4_unfitPartner_30 (⟨fiR_no hI.2, rfl⟩)
      ·
        refine r_aload_n C dX4_unfitPartner_12 rfl 1 rfl ?_
        refine r_iload_n C dX4_unfitPartner_13 rfl 2 rfl ?_
        refine r_iload_n C dX4_unfitPartner_14 rfl 0 rfl ?_
        refine r_npcallV_i (nA := 2) C hN (Nat.le_of_ble_eq_true rfl) [.int (nI a), .int (nI k)] (c_X4_unfit l D cs ad M g  hg9 gi z n d hg hn8 hm a k (by omega) (by omega)) (tt_V ml_X4_89 im_X4_unfit se_X4_unfit in_X4 co_X4_unfit) ⟨rfl, rfl⟩ ⟨rfl, by decide, by decide, by decide⟩ ⟨Nat.le_of_ble_eq_true rfl, Nat.le_of_ble_eq_true rfl⟩ (by simp only [gO, gN, gW, gL, gR, gH] <;> omega) (wF_O cs ad (by omega) _ _) rfl rfl rfl rfl (Nat.le_of_ble_eq_true rfl) dX4_unfitPartner_15 ?_
        refine r_ifB_eq C 23 dX4_unfitPartner_18 (by decide) (fun h18 => ?_) (fun h18 => ?_)
        ·
          refine r_iinc C (nI (k + 1)) [(2, .int (nI (k + 1))), (0, .ref (ad (gO g))), (1, .int (nI a))] dX4_unfitPartner_23 (j := 0) rfl (inc_n k 1) (by decide) rfl ?_
          refine r_goto C 4 dX4_unfitPartner_26 (by decide) ?_
          refine r_lv (lv2 := [(2, .int (nI (k + 1))), (0, .ref (ad (gO g))), (1, .int (nI a))]) [0, 1, 2] rfl ?_
          exact ih (k + 1) (by omega) (by omega) ⟨by omega, lt9s hI.2 (by simp [h18])⟩
        ·
          refine r_iload_n C dX4_unfitPartner_21 rfl 0 rfl ?_
          exact E 0 _ _ _ _ (Nat.le_of_ble_eq_true rfl) dX4_unfitPartner_22 (⟨fiR_at (by omega) (by simp [h18]; omega) hI.2, rfl⟩)
  refine r_lv (lv2 := [(2, .int (nI (a + 1))), (0, .ref (ad (gO g))), (1, .int (nI a))]) [0, 1, 2] rfl ?_
  exact Lp (n + 1) (a + 1) (by omega) (by omega) ⟨by omega, fun j hj => by simp; omega⟩
set_option maxRecDepth 100000 in
set_option maxHeartbeats 4000000 in
theorem c_X4_firstUnfit (l : Launch) (D : va_G) (cs : Nat → ClassId) (ad : Nat → Nat) (M : Mm) (g : Nat) (hg9 : g < 9) (gi : Nat) (z : Nat → Int32) (n d : Nat) (hg : gv M g gi z n d) (hn8 : n ≤ 8) (hm : gm z n) : ∀ sz : Nat, Met l yX4_firstUnfit (.code yX4_firstUnfit cX4_firstUnfit 2 (some .int) :: TT) { frames := 3, cells := 0, slots := 0, locals := 67 } (va_Pc [.ref (ad (gO g))] (fun U9 => U9.heap.size = sz ∧ wB D cs ad (fA ad sz) M U9 ∧ xX (fA ad sz) U9 U9.heap)) (va_Qi (fun r M2 => r = fuz z n ∧ M2 = M) (wB D cs ad (fA ad sz)) (fA ad sz)) 0 0 (fA ad sz) := by
  refine sn_I (by decide) (Nat.le_of_ble_eq_true rfl) (fun κ C hN E => ?_)
  refine r_lv (lv2 := [(0, .ref (ad (gO g)))]) [0] rfl ?_
  refine r_iconst C (nI 0) dX4_firstUnfit_0 (by decide) ?_
  refine r_istore_n C [(1, .int (nI 0)), (0, .ref (ad (gO g)))] dX4_firstUnfit_1 rfl (by decide) rfl ?_
  have Lp : ∀ (f k : Nat), n + 1 ≤ k + f → k ≤ n → (∀ j, j < k → (!decide (upz z n j = -1)) = false) → VV l D cs ad 2 κ 0 M 2 [(1, .int (nI k)), (0, .ref (ad (gO g)))] [] := by
    intro f
    induction f with
    | zero => intro k hk1 hk2 hI; exact absurd hk1 (by omega)
    | succ f ih =>
      intro k hk1 hk2 hI
      refine r_iload_n C dX4_firstUnfit_2 rfl 0 rfl ?_
      refine r_aload_n C dX4_firstUnfit_3 rfl 1 rfl ?_
      refine r_get C (Cn := RX4) (T := TX4) (N := 6) (id := (gO g)) (by simp only [gO, gN, gW, gL, gR, gH] <;> omega) inw_X4 (wF_O cs ad (by omega) _ _) rfl 0 (by decide) rfl fl_X4_9 rfl dX4_firstUnfit_4 ?_
      refine r_topi (w := nI n) hg.1 ?_
      refine r_icmpN_ge C 27 dX4_firstUnfit_7 (by decide) (by omega) (by omega) (fun h7 => ?_) (fun h7 => ?_)
      ·
        have hk9 : n = k := by omega
        subst hk9
        refine r_iconst C ((-1)) dX4_firstUnfit_27 (by decide) ?_
        exact E 0 _ _ _ _ (Nat.le_of_ble_eq_true rfl) dX4_firstUnfit_28 (⟨fiR_no hI, rfl⟩)
      ·
        refine r_aload_n C dX4_firstUnfit_10 rfl 1 rfl ?_
        refine r_iload_n C dX4_firstUnfit_11 rfl 0 rfl ?_
        refine r_npcallV_i (nA := 1) C hN (Nat.le_of_ble_eq_true rfl) [.int (nI k)] (c_X4_unfitPartner l D cs ad M g  hg9 gi z n d hg hn8 hm k (by omega)) (tt_V ml_X4_92 im_X4_unfitPartner se_X4_unfitPartner in_X4 co_X4_unfitPartner) ⟨rfl, rfl⟩ ⟨rfl, by decide, by decide, by decide⟩ ⟨Nat.le_of_ble_eq_true rfl, Nat.le_of_ble_eq_true rfl⟩ (by simp only [gO, gN, gW, gL, gR, gH] <;> omega) (wF_O cs ad (by omega) _ _) rfl rfl rfl rfl (Nat.le_of_ble_eq_true rfl) dX4_firstUnfit_12 ?_
        refine r_iconst C ((-1)) dX4_firstUnfit_15 (by decide) ?_
        refine r_icmp_eq C 21 dX4_firstUnfit_16 (by decide) (fun h16 => ?_) (fun h16 => ?_)
        ·
          refine r_iinc C (nI (k + 1)) [(1, .int (nI (k + 1))), (0, .ref (ad (gO g)))] dX4_firstUnfit_21 (j := 0) rfl (inc_n k 1) (by decide) rfl ?_
          refine r_goto C 2 dX4_firstUnfit_24 (by decide) ?_
          refine r_lv (lv2 := [(1, .int (nI (k + 1))), (0, .ref (ad (gO g)))]) [0, 1] rfl ?_
          exact ih (k + 1) (by omega) (by omega) (lt9s hI (by simp [h16]))
        ·
          refine r_iload_n C dX4_firstUnfit_19 rfl 0 rfl ?_
          exact E 0 _ _ _ _ (Nat.le_of_ble_eq_true rfl) dX4_firstUnfit_20 (⟨fiR_at (by omega) (by simp [h16]) hI, rfl⟩)
  refine r_lv (lv2 := [(1, .int (nI 0)), (0, .ref (ad (gO g)))]) [0, 1] rfl ?_
  exact Lp (n + 1) 0 (by omega) (by omega) (fun j hj => absurd hj (Nat.not_lt_zero j))
set_option maxRecDepth 100000 in
set_option maxHeartbeats 4000000 in
theorem c_X4_unfitPairs (l : Launch) (D : va_G) (cs : Nat → ClassId) (ad : Nat → Nat) (M : Mm) (g : Nat) (hg9 : g < 9) (gi : Nat) (z : Nat → Int32) (n d : Nat) (hg : gv M g gi z n d) (hn8 : n ≤ 8) (hm : gm z n) : ∀ sz : Nat, Met l yX4_unfitPairs (.code yX4_unfitPairs cX4_unfitPairs 4 (some .int) :: TT) { frames := 2, cells := 0, slots := 0, locals := 45 } (va_Pc [.ref (ad (gO g))] (fun U9 => U9.heap.size = sz ∧ wB D cs ad (fA ad sz) M U9 ∧ xX (fA ad sz) U9 U9.heap)) (va_Qi (fun r M2 => r = ufc z n ∧ M2 = M) (wB D cs ad (fA ad sz)) (fA ad sz)) 0 0 (fA ad sz) := by
  refine sn_I (by decide) (Nat.le_of_ble_eq_true rfl) (fun κ C hN E => ?_)
  refine r_lv (lv2 := [(0, .ref (ad (gO g)))]) [0] rfl ?_
  refine r_iconst C (nI 0) dX4_unfitPairs_0 (by decide) ?_
  refine r_istore_n C [(1, .int (nI 0)), (0, .ref (ad (gO g)))] dX4_unfitPairs_1 rfl (by decide) rfl ?_
  refine r_iconst C (nI 0) dX4_unfitPairs_2 (by decide) ?_
  refine r_istore_n C [(2, .int (nI 0)), (1, .int (nI 0)), (0, .ref (ad (gO g)))] dX4_unfitPairs_3 rfl (by decide) rfl ?_
  have Lp : ∀ (f_a a : Nat), n + 1 ≤ a + f_a → a ≤ n → VV l D cs ad 4 κ 0 M 4 [(2, .int (nI a)), (1, .int (sI (fun a => sI (fun b => bI (!decide (b ≤ a) && uf z a b)) n) a)), (0, .ref (ad (gO g)))] [] := by
    intro f_a
    induction f_a with
    | zero => intro a hk1_a hk2_a; exact absurd hk1_a (by omega)
    | succ f_a ih_a =>
      intro a hk1_a hk2_a
      refine r_iload_n C dX4_unfitPairs_4 rfl 0 rfl ?_
      refine r_aload_n C dX4_unfitPairs_5 rfl 2 rfl ?_
      refine r_get C (Cn := RX4) (T := TX4) (N := 6) (id := (gO g)) (by simp only [gO, gN, gW, gL, gR, gH] <;> omega) inw_X4 (wF_O cs ad (by omega) _ _) rfl 0 (by decide) rfl fl_X4_9 rfl dX4_unfitPairs_6 ?_
      refine r_topi (w := nI n) hg.1 ?_
      refine r_icmpN_ge C 53 dX4_unfitPairs_9 (by decide) (by omega) (by omega) (fun h9 => ?_) (fun h9 => ?_)
      ·
        have hk9 : n = a := by omega
        subst hk9
        refine r_iload_n C dX4_unfitPairs_53 rfl 1 rfl ?_
        exact E 0 _ _ _ _ (Nat.le_of_ble_eq_true rfl) dX4_unfitPairs_54 (⟨rfl, rfl⟩)
      ·
        refine r_lve (lv2 := [(2, .int (nI a)), (1, .int (sI (fun a => sI (fun b => bI (!decide (b ≤ a) && uf z a b)) n) a + sI (fun b => bI (!decide (b ≤ a) && uf z a b)) (a + 1))), (0, .ref (ad (gO g)))]) (by rw [sI_0 (f := fun b => bI (!decide (b ≤ a) && uf z a b)) (n := a + 1) (fun j hj => by simp [show j ≤ a from by omega]; rfl), ad_0]) ?_
        refine r_iload_n C dX4_unfitPairs_12 rfl 0 rfl ?_
        refine r_iconst C (nI 1) dX4_unfitPairs_13 (by decide) ?_
        refine r_iadd C dX4_unfitPairs_14 ?_
        refine r_topi (nI_add a 1) ?_
        refine r_istore_n C [(3, .int (nI (a + 1))), (2, .int (nI a)), (1, .int (sI (fun a => sI (fun b => bI (!decide (b ≤ a) && uf z a b)) n) a + sI (fun b => bI (!decide (b ≤ a) && uf z a b)) (a + 1))), (0, .ref (ad (gO g)))] dX4_unfitPairs_15 rfl (by decide) rfl ?_
        have Lq : ∀ (f_b b : Nat), n + 1 ≤ b + f_b → b ≤ n → a < b → VV l D cs ad 4 κ 0 M 16 [(3, .int (nI b)), (1, .int (sI (fun a => sI (fun b => bI (!decide (b ≤ a) && uf z a b)) n) a + sI (fun b => bI (!decide (b ≤ a) && uf z a b)) b)), (0, .ref (ad (gO g))), (2, .int (nI a))] [] := by
          intro f_b
          induction f_b with
          | zero => intro b hk1_b hk2_b hI_b; exact absurd hk1_b (by omega)
          | succ f_b ih_b =>
            intro b hk1_b hk2_b hI_b
            refine r_iload_n C dX4_unfitPairs_16 rfl 0 rfl ?_
            refine r_aload_n C dX4_unfitPairs_17 rfl 2 rfl ?_
            refine r_get C (Cn := RX4) (T := TX4) (N := 6) (id := (gO g)) (by simp only [gO, gN, gW, gL, gR, gH] <;> omega) inw_X4 (wF_O cs ad (by omega) _ _) rfl 0 (by decide) rfl fl_X4_9 rfl dX4_unfitPairs_18 ?_
            refine r_topi (w := nI n) hg.1 ?_
            refine r_icmpN_ge C 47 dX4_unfitPairs_21 (by decide) (by omega) (by omega) (fun h21 => ?_) (fun h21 => ?_)
            ·
              have hk9 : n = b := by omega
              subst hk9
              refine r_iinc C (nI (a + 1)) [(2, .int (nI (a + 1))), (3, .int (nI n)), (1, .int (sI (fun a => sI (fun b => bI (!decide (b ≤ a) && uf z a b)) n) a + sI (fun b => bI (!decide (b ≤ a) && uf z a b)) n)), (0, .ref (ad (gO g)))] dX4_unfitPairs_47 (j := 3) rfl (inc_n a 1) (by decide) rfl ?_
              refine r_goto C 4 dX4_unfitPairs_50 (by decide) ?_
              refine r_lv (lv2 := [(2, .int (nI (a + 1))), (1, .int (sI (fun a => sI (fun b => bI (!decide (b ≤ a) && uf z a b)) n) (a + 1))), (0, .ref (ad (gO g)))]) [0, 2, 3] rfl ?_
              exact ih_a (a + 1) (by omega) (by omega)
            ·
              refine r_iload_n C dX4_unfitPairs_24 rfl 1 rfl ?_
              refine r_aload_n C dX4_unfitPairs_25 rfl 2 rfl ?_
              refine r_iload_n C dX4_unfitPairs_26 rfl 3 rfl ?_
              refine r_iload_n C dX4_unfitPairs_27 rfl 0 rfl ?_
              refine r_npcallV_i (nA := 2) C hN (Nat.le_of_ble_eq_true rfl) [.int (nI a), .int (nI b)] (c_X4_unfit l D cs ad M g  hg9 gi z n d hg hn8 hm a b (by omega) (by omega)) (tt_V ml_X4_89 im_X4_unfit se_X4_unfit in_X4 co_X4_unfit) ⟨rfl, rfl⟩ ⟨rfl, by decide, by decide, by decide⟩ ⟨Nat.le_of_ble_eq_true rfl, Nat.le_of_ble_eq_true rfl⟩ (by simp only [gO, gN, gW, gL, gR, gH] <;> omega) (wF_O cs ad (by omega) _ _) rfl rfl rfl rfl (Nat.le_of_ble_eq_true rfl) dX4_unfitPairs_28 ?_
              refine r_ifB_eq C 38 dX4_unfitPairs_31 (by decide) (fun h31 => ?_) (fun h31 => ?_)
              ·
                refine r_iconst C (nI 0) dX4_unfitPairs_38 (by decide) ?_
                refine r_topi (w := bI (!decide (b ≤ a) && uf z a b)) (bI_off (by simp [show ¬ b ≤ a from by omega, h9, h21, h31])) ?_
                refine r_iadd C dX4_unfitPairs_39 ?_
                refine r_topi (w := (sI (fun a => sI (fun b => bI (!decide (b ≤ a) && uf z a b)) n) a + sI (fun b => bI (!decide (b ≤ a) && uf z a b)) (b + 1))) (by rw [Int32.add_assoc]; rfl) ?_
                refine r_istore_n C [(1, .int (sI (fun a => sI (fun b => bI (!decide (b ≤ a) && uf z a b)) n) a + sI (fun b => bI (!decide (b ≤ a) && uf z a b)) (b + 1))), (3, .int (nI b)), (0, .ref (ad (gO g))), (2, .int (nI a))] dX4_unfitPairs_40 rfl (by decide) rfl ?_
                refine r_iinc C (nI (b + 1)) [(3, .int (nI (b + 1))), (1, .int (sI (fun a => sI (fun b => bI (!decide (b ≤ a) && uf z a b)) n) a + sI (fun b => bI (!decide (b ≤ a) && uf z a b)) (b + 1))), (0, .ref (ad (gO g))), (2, .int (nI a))] dX4_unfitPairs_41 (j := 1) rfl (inc_n b 1) (by decide) rfl ?_
                refine r_goto C 16 dX4_unfitPairs_44 (by decide) ?_
                refine r_lv (lv2 := [(3, .int (nI (b + 1))), (1, .int (sI (fun a => sI (fun b => bI (!decide (b ≤ a) && uf z a b)) n) a + sI (fun b => bI (!decide (b ≤ a) && uf z a b)) (b + 1))), (0, .ref (ad (gO g))), (2, .int (nI a))]) [0, 1, 2, 3] rfl ?_
                exact ih_b (b + 1) (by omega) (by omega) (by omega)
              ·
                refine r_iconst C (nI 1) dX4_unfitPairs_34 (by decide) ?_
                refine r_goto C 39 dX4_unfitPairs_35 (by decide) ?_
                refine r_topi (w := bI (!decide (b ≤ a) && uf z a b)) (bI_on (by simp [show ¬ b ≤ a from by omega, h9, h21, h31])) ?_
                refine r_iadd C dX4_unfitPairs_39 ?_
                refine r_topi (w := (sI (fun a => sI (fun b => bI (!decide (b ≤ a) && uf z a b)) n) a + sI (fun b => bI (!decide (b ≤ a) && uf z a b)) (b + 1))) (by rw [Int32.add_assoc]; rfl) ?_
                refine r_istore_n C [(1, .int (sI (fun a => sI (fun b => bI (!decide (b ≤ a) && uf z a b)) n) a + sI (fun b => bI (!decide (b ≤ a) && uf z a b)) (b + 1))), (3, .int (nI b)), (0, .ref (ad (gO g))), (2, .int (nI a))] dX4_unfitPairs_40 rfl (by decide) rfl ?_
                refine r_iinc C (nI (b + 1)) [(3, .int (nI (b + 1))), (1, .int (sI (fun a => sI (fun b => bI (!decide (b ≤ a) && uf z a b)) n) a + sI (fun b => bI (!decide (b ≤ a) && uf z a b)) (b + 1))), (0, .ref (ad (gO g))), (2, .int (nI a))] dX4_unfitPairs_41 (j := 1) rfl (inc_n b 1) (by decide) rfl ?_
                refine r_goto C 16 dX4_unfitPairs_44 (by decide) ?_
                refine r_lv (lv2 := [(3, .int (nI (b + 1))), (1, .int (sI (fun a => sI (fun b => bI (!decide (b ≤ a) && uf z a b)) n) a + sI (fun b => bI (!decide (b ≤ a) && uf z a b)) (b + 1))), (0, .ref (ad (gO g))), (2, .int (nI a))]) [0, 1, 2, 3] rfl ?_
                exact ih_b (b + 1) (by omega) (by omega) (by omega)
        refine r_lv (lv2 := [(3, .int (nI (a + 1))), (1, .int (sI (fun a => sI (fun b => bI (!decide (b ≤ a) && uf z a b)) n) a + sI (fun b => bI (!decide (b ≤ a) && uf z a b)) (a + 1))), (0, .ref (ad (gO g))), (2, .int (nI a))]) [0, 2, 3, 1] rfl ?_
        exact Lq (n + 1) (a + 1) (by omega) (by omega) (by omega)
  refine r_lv (lv2 := [(2, .int (nI 0)), (1, .int (sI (fun a => sI (fun b => bI (!decide (b ≤ a) && uf z a b)) n) 0)), (0, .ref (ad (gO g)))]) [0, 1, 2] rfl ?_
  exact Lp (n + 1) 0 (by omega) (by omega)
set_option maxRecDepth 100000 in
set_option maxHeartbeats 4000000 in
theorem c_X4_firstMissed (l : Launch) (D : va_G) (cs : Nat → ClassId) (ad : Nat → Nat) (M : Mm) (g : Nat) (hg9 : g < 9) (gi : Nat) (z : Nat → Int32) (n d : Nat) (hg : gv M g gi z n d) (hn8 : n ≤ 8) (hi1 : gi < 140) (hi2 : ∀ x y, wF cs ad gi x y = .inl (cs 0, 4, .inl x)) : ∀ sz : Nat, Met l yX4_firstMissed (.code yX4_firstMissed cX4_firstMissed 3 (some .int) :: TT) { frames := 1, cells := 0, slots := 0, locals := 23 } (va_Pc [.ref (ad (gO g)), .ref (ad gi)] (fun U9 => U9.heap.size = sz ∧ wB D cs ad (fA ad sz) M U9 ∧ xX (fA ad sz) U9 U9.heap)) (va_Qi (fun r M2 => r = upR z n ∧ M2 = M) (wB D cs ad (fA ad sz)) (fA ad sz)) 0 0 (fA ad sz) := by
  refine sn_I (by decide) (Nat.le_of_ble_eq_true rfl) (fun κ C hN E => ?_)
  refine r_lv (lv2 := [(0, .ref (ad (gO g))), (1, .ref (ad gi))]) [0, 1] rfl ?_
  refine r_iconst C (nI 0) dX4_firstMissed_0 (by decide) ?_
  refine r_istore_n C [(2, .int (nI 0)), (0, .ref (ad (gO g))), (1, .ref (ad gi))] dX4_firstMissed_1 rfl (by decide) rfl ?_
  have Lp : ∀ (f k : Nat), n + 1 ≤ k + f → k ≤ n → (∀ j, j < k → upr z j = false) → VV l D cs ad 3 κ 0 M 2 [(2, .int (nI k)), (0, .ref (ad (gO g))), (1, .ref (ad gi))] [] := by
    intro f
    induction f with
    | zero => intro k hk1 hk2 hI; exact absurd hk1 (by omega)
    | succ f ih =>
      intro k hk1 hk2 hI
      refine r_iload_n C dX4_firstMissed_2 rfl 0 rfl ?_
      refine r_aload_n C dX4_firstMissed_3 rfl 1 rfl ?_
      refine r_get C (Cn := RX4) (T := TX4) (N := 6) (id := (gO g)) (by simp only [gO, gN, gW, gL, gR, gH] <;> omega) inw_X4 (wF_O cs ad (by omega) _ _) rfl 0 (by decide) rfl fl_X4_9 rfl dX4_firstMissed_4 ?_
      refine r_topi (w := nI n) hg.1 ?_
      refine r_icmpN_ge C 40 dX4_firstMissed_7 (by decide) (by omega) (by omega) (fun h7 => ?_) (fun h7 => ?_)
      ·
        have hk9 : n = k := by omega
        subst hk9
        refine r_iconst C ((-1)) dX4_firstMissed_40 (by decide) ?_
        exact E 0 _ _ _ _ (Nat.le_of_ble_eq_true rfl) dX4_firstMissed_41 (⟨fiR_no hI, rfl⟩)
      ·
        refine r_aload_n C dX4_firstMissed_10 rfl 1 rfl ?_
        refine r_get C (Cn := RX4) (T := TX4) (N := 6) (id := (gO g)) (by simp only [gO, gN, gW, gL, gR, gH] <;> omega) inw_X4 (wF_O cs ad (by omega) _ _) rfl 3 (by decide) rfl fl_X4_22 rfl dX4_firstMissed_11 ?_
        refine r_iload_n C dX4_firstMissed_14 rfl 0 rfl ?_
        refine r_iald C (id := (gW g)) (n := 8) (a := k) (by simp only [gO, gN, gW, gL, gR, gH] <;> omega) (wF_W cs ad (by omega) _ _) (by omega) (by decide) dX4_firstMissed_15 ?_
        refine r_topi (w := (z (2 + k))) (hg.2.2.2.1 k (by omega)) ?_
        refine r_if_le C 34 dX4_firstMissed_16 (by decide) (fun h16 => ?_) (fun h16 => ?_)
        ·
          refine r_iinc C (nI (k + 1)) [(2, .int (nI (k + 1))), (0, .ref (ad (gO g))), (1, .ref (ad gi))] dX4_firstMissed_34 (j := 0) rfl (inc_n k 1) (by decide) rfl ?_
          refine r_goto C 2 dX4_firstMissed_37 (by decide) ?_
          refine r_lv (lv2 := [(2, .int (nI (k + 1))), (0, .ref (ad (gO g))), (1, .ref (ad gi))]) [0, 1, 2] rfl ?_
          exact ih (k + 1) (by omega) (by omega) (lt9s hI (by simp [upr, h16]))
        ·
          refine r_aload_n C dX4_firstMissed_19 rfl 2 rfl ?_
          refine r_aload_n C dX4_firstMissed_20 rfl 1 rfl ?_
          refine r_get C (Cn := RX4) (T := TX4) (N := 6) (id := (gO g)) (by simp only [gO, gN, gW, gL, gR, gH] <;> omega) inw_X4 (wF_O cs ad (by omega) _ _) rfl 4 (by decide) rfl fl_X4_27 rfl dX4_firstMissed_21 ?_
          refine r_iload_n C dX4_firstMissed_24 rfl 0 rfl ?_
          refine r_aald C (id := (gL g)) (n := 8) (a := k) (id2 := (gR g k)) (t0 := 4) (by simp only [gO, gN, gW, gL, gR, gH] <;> omega) (wF_L cs ad (by omega) _ _) rfl rfl (by omega) (by decide) (if_pos (by omega)) dX4_firstMissed_25 ?_
          refine r_nest_i (nA := 2) C hN (Nat.le_of_ble_eq_true rfl) (r9 := (pdI (M.1 gi) (M.1 (gR g k)))) [.ref (ad gi), .ref (ad (gR g k))] (c_X7_product l D cs ad M gi (gR g k) hi1 (fun _ _ => (hi2 _ _)) (by simp only [gO, gN, gW, gL, gR, gH] <;> omega) (fun _ _ => (wF_R cs ad (by omega) (by omega) _ _))) (List.mem_of_getElem? (i := 0) rfl) st_X7_product in_X7 co_X7_product ⟨rfl, rfl⟩ ⟨by decide, by decide, by decide⟩ ⟨Nat.le_of_ble_eq_true rfl, Nat.le_of_ble_eq_true rfl⟩ rfl rfl (Nat.le_of_ble_eq_true rfl) dX4_firstMissed_26 ?_
          refine r_topi (w := (dotz z 50 (18 + 4 * k))) (pd_hr hg (by omega)) ?_
          refine r_if_ne C 34 dX4_firstMissed_29 (by decide) (fun h29 => ?_) (fun h29 => ?_)
          ·
            refine r_iinc C (nI (k + 1)) [(2, .int (nI (k + 1))), (0, .ref (ad (gO g))), (1, .ref (ad gi))] dX4_firstMissed_34 (j := 0) rfl (inc_n k 1) (by decide) rfl ?_
            refine r_goto C 2 dX4_firstMissed_37 (by decide) ?_
            refine r_lv (lv2 := [(2, .int (nI (k + 1))), (0, .ref (ad (gO g))), (1, .ref (ad gi))]) [0, 1, 2] rfl ?_
            exact ih (k + 1) (by omega) (by omega) (lt9s hI (by simp [upr, h16, h29]))
          ·
            refine r_iload_n C dX4_firstMissed_32 rfl 0 rfl ?_
            exact E 0 _ _ _ _ (Nat.le_of_ble_eq_true rfl) dX4_firstMissed_33 (⟨fiR_at (by omega) (by simp [upr, h16, h29]) hI, rfl⟩)
  refine r_lv (lv2 := [(2, .int (nI 0)), (0, .ref (ad (gO g))), (1, .ref (ad gi))]) [0, 1, 2] rfl ?_
  exact Lp (n + 1) 0 (by omega) (by omega) (fun j hj => absurd hj (Nat.not_lt_zero j))
