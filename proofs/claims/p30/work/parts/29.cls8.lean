/-! ===== the class: cliques (written by wip/whole/gen/cls8.py) ===== -/
/-- the weight of a mask of the first v vertices, -1 where it is no clique -/
def clW (z : Nat → Int32) : Nat → Nat → Int32
  | 0, _ => nI 0
  | v + 1, m => if m < 2 ^ v then clW z v m else if (!decide (clW z v (m - 2 ^ v) = -1) && decide (nI (m - 2 ^ v) &&& ntI (z (10 + v)) = 0)) = true then clW z v (m - 2 ^ v) + z (2 + v) else -1
theorem clW_lo {z : Nat → Int32} {v m : Nat} (h : m < 2 ^ v) : clW z (v + 1) m = clW z v m := if_pos h
theorem clW_hi {z : Nat → Int32} {v m : Nat} : clW z (v + 1) (2 ^ v + m) = if (!decide (clW z v m = -1) && decide (nI m &&& ntI (z (10 + v)) = 0)) = true then clW z v m + z (2 + v) else -1 := by
  show (if 2 ^ v + m < 2 ^ v then _ else _) = _
  rw [if_neg (by omega), show 2 ^ v + m - 2 ^ v = m by omega]
theorem p2b {v : Nat} (h : v < 8) : 2 ^ v ≤ 128 := (Nat.pow_le_pow_right (by decide) (show v ≤ 7 by omega) : 2 ^ v ≤ 2 ^ 7)
/-- what the masks' row shows -/
def cqV (M : Mm) (z : Nat → Int32) (n : Nat) : Prop := M.1 127 1 = nI (2 ^ n) ∧ ∀ m, m < 2 ^ n → M.1 128 m = clW z n m
def o2 (i k : Nat) (M M2 : Mm) : Prop := (∀ j, j ≠ i → j ≠ k → M2.1 j = M.1 j) ∧ M2.2 = M.2
theorem o2.I1 {i k : Nat} {M M3 : Mm} (h : o2 i k M M3) {j : Nat} {x : Int32} : o2 i k M (mI M3 i j x) := ⟨fun q h1 h2 => (mI_ne M3 h1).trans (h.1 q h1 h2), h.2⟩
theorem o2.I2 {i k : Nat} {M M3 : Mm} (h : o2 i k M M3) {j : Nat} {x : Int32} : o2 i k M (mI M3 k j x) := ⟨fun q h1 h2 => (mI_ne M3 h2).trans (h.1 q h1 h2), h.2⟩
def cfI (z : Nat → Int32) (v k : Nat) (M M3 : Mm) : Prop := o2 127 128 M M3 ∧ M3.1 127 1 = nI (2 ^ v) ∧ ∀ m, m < 2 ^ v + k → M3.1 128 m = clW z (v + 1) m
theorem cf_0 {z : Nat → Int32} {v : Nat} {M M3 : Mm} (h : o2 127 128 M M3 ∧ cqV M3 z v) : cfI z v 0 M M3 := ⟨h.1, h.2.1, fun m hm => by rw [Nat.add_zero] at hm; rw [clW_lo hm]; exact h.2.2 m hm⟩
theorem cf_s {z : Nat → Int32} {v k : Nat} {M M3 : Mm} (h : cfI z v k M M3) {x : Int32} (hx : x = clW z (v + 1) (2 ^ v + k)) : cfI z v (k + 1) M (mI M3 128 (2 ^ v + k) x) := by
  subst hx
  refine ⟨h.1.I2, by rw [mI_ne _ (by decide)]; exact h.2.1, fun m hm => ?_⟩
  rw [mI_eq]; unfold upd
  by_cases e : m = 2 ^ v + k
  · rw [if_pos e, e]
  · rw [if_neg e]; exact h.2.2 m (by omega)
theorem cf_v {z : Nat → Int32} {v : Nat} {M M3 : Mm} (h : cfI z v (2 ^ v) M M3) : o2 127 128 M (mI M3 127 1 (nI (2 ^ v * 2))) ∧ cqV (mI M3 127 1 (nI (2 ^ v * 2))) z (v + 1) := by
  refine ⟨h.1.I1, by rw [mI_eq, upd_e, Nat.pow_succ], fun m hm => ?_⟩
  rw [mI_ne _ (by decide)]
  exact h.2.2 m (by rw [Nat.pow_succ] at hm; omega)
theorem cf_a {z : Nat → Int32} {M : Mm} : o2 127 128 M (mI (mI M 128 0 (nI 0)) 127 1 (nI 1)) ∧ cqV (mI (mI M 128 0 (nI 0)) 127 1 (nI 1)) z 0 := by
  refine ⟨⟨fun j h1 h2 => by rw [mI_ne _ h1, mI_ne _ h2], rfl⟩, by rw [mI_eq, upd_e], fun m hm => ?_⟩
  have e : m = 0 := by simpa using hm
  rw [e, mI_ne _ (by decide), mI_eq, upd_e]; rfl
/-- the lowest of the heaviest masks so far that hold w -/
def hcS (z : Nat → Int32) (n w : Nat) : Nat → Nat
  | 0 => w
  | s + 1 => if nI s &&& nI w = nI w ∧ ¬ clW z n s ≤ clW z n (hcS z n w s) then s else hcS z n w s
theorem hcS_lt {z : Nat → Int32} {n w : Nat} (hw : w < 2 ^ n) : ∀ {s : Nat}, s ≤ 2 ^ n → hcS z n w s < 2 ^ n
  | 0, _ => hw
  | s + 1, h => by
    unfold hcS; split
    · omega
    · exact hcS_lt hw (by omega)
def mcS (z : Nat → Int32) (n : Nat) : Nat → Int32
  | 0 => nI 0
  | s + 1 => if clW z n s = -1 then mcS z n s else if mcS z n s < bcI (nI s) then bcI (nI s) else mcS z n s
set_option maxRecDepth 100000 in
set_option maxHeartbeats 4000000 in
theorem c_X1_find (l : Launch) (D : va_G) (cs : Nat → ClassId) (ad : Nat → Nat) (M : Mm) (z : Nat → Int32) (n d : Nat) (hg : gv M 0 (gH 0) z n d) (hn8 : n ≤ 8) : ∀ sz : Nat, Met l yX1_find (.code yX1_find cX1_find 5 none :: TT) { frames := 0, cells := 0, slots := 0, locals := 0 } (va_Pc [.ref (ad 127), .ref (ad (gO 0))] (fun U9 => U9.heap.size = sz ∧ wB D cs ad (fA ad sz) M U9)) (va_Qv (fun M2 => o2 127 128 M M2 ∧ cqV M2 z n) (wB D cs ad (fA ad sz)) (fA ad sz)) 0 0 (fA ad sz) := by
  refine st_V (by decide) (Nat.le_of_ble_eq_true rfl) (fun κ C E => ?_)
  refine r_lv (lv2 := [(0, .ref (ad 127)), (1, .ref (ad (gO 0)))]) [0, 1] rfl ?_
  refine r_aload_n C dX1_find_0 rfl 0 rfl ?_
  refine r_get C (Cn := RX1) (T := TX1) (N := 2) (id := 127) (by decide) inw_X1 rfl rfl 0 (by decide) rfl fl_X1_9 rfl dX1_find_1 ?_
  refine r_iconst C (nI 0) dX1_find_4 (by decide) ?_
  refine r_iconst C (nI 0) dX1_find_5 (by decide) ?_
  refine r_iast C (id := 128) (n := 256) (a := 0) (by decide) (fun _ => rfl) (by decide) (by decide) dX1_find_6 ?_
  refine r_aload_n C dX1_find_7 rfl 0 rfl ?_
  refine r_iconst C (nI 1) dX1_find_8 (by decide) ?_
  refine r_put C (M2 := (mI (mI M 128 0 (nI 0)) 127 1 (nI 1))) (Cn := RX1) (T := TX1) (N := 2) (id := 127) (by decide) inw_X1 tyX1_ok nmX1 rfl rfl 1 (by decide) rfl fl_X1_15 rfl rfl (rfl) (Nat.le_of_ble_eq_true rfl) (fun j hj => ⟨mI_ne _ hj, rfl⟩) rfl dX1_find_9 ?_
  refine r_iconst C (nI 0) dX1_find_12 (by decide) ?_
  refine r_istore_n C [(2, .int (nI 0)), (0, .ref (ad 127)), (1, .ref (ad (gO 0)))] dX1_find_13 rfl (by decide) rfl ?_
  have Lp : ∀ (f_v v : Nat) (M3 : Mm), n + 1 ≤ v + f_v → v ≤ n → (o2 127 128 M M3 ∧ cqV M3 z v) → VV l D cs ad 5 κ 0 M3 14 [(2, .int (nI v)), (0, .ref (ad 127)), (1, .ref (ad (gO 0)))] [] := by
    intro f_v
    induction f_v with
    | zero => intro v M3 hk1_v hk2_v hI_v; exact absurd hk1_v (by omega)
    | succ f_v ih_v =>
      intro v M3 hk1_v hk2_v hI_v
      refine r_iload_n C dX1_find_14 rfl 0 rfl ?_
      refine r_aload_n C dX1_find_15 rfl 2 rfl ?_
      refine r_get C (Cn := RX4) (T := TX4) (N := 6) (id := (gO 0)) (by simp only [gO, gN, gW, gL, gR, gH] <;> omega) inw_X4 (wF_O cs ad (by decide) _ _) rfl 0 (by decide) rfl fl_X1_19 rfl dX1_find_16 ?_
      refine r_topi (w := nI n) ((congrFun (hI_v.1.1 _ (by decide) (by decide)) 0).trans hg.1) ?_
      refine r_icmpN_ge C 117 dX1_find_19 (by decide) (by omega) (by omega) (fun h19 => ?_) (fun h19 => ?_)
      ·
        have hk9 : n = v := by omega
        subst hk9
        exact E 0 _ _ _ (Nat.le_of_ble_eq_true rfl) dX1_find_117 (hI_v)
      ·
        have hp2 := p2b (show v < 8 by omega)
        refine r_iconst C (nI 0) dX1_find_22 (by decide) ?_
        refine r_istore_n C [(3, .int (nI 0)), (2, .int (nI v)), (0, .ref (ad 127)), (1, .ref (ad (gO 0)))] dX1_find_23 rfl (by decide) rfl ?_
        have Lq : ∀ (f k : Nat) (M4 : Mm), (2 ^ v) + 1 ≤ k + f → k ≤ (2 ^ v) → cfI z v k M M4 → VV l D cs ad 5 κ 0 M4 24 [(3, .int (nI k)), (0, .ref (ad 127)), (1, .ref (ad (gO 0))), (2, .int (nI v))] [] := by
          intro f
          induction f with
          | zero => intro k M4 hk1 hk2 hI; exact absurd hk1 (by omega)
          | succ f ih =>
            intro k M4 hk1 hk2 hI
            refine r_iload_n C dX1_find_24 rfl 0 rfl ?_
            refine r_aload_n C dX1_find_25 rfl 1 rfl ?_
            refine r_get C (Cn := RX1) (T := TX1) (N := 2) (id := 127) (by decide) inw_X1 rfl rfl 1 (by decide) rfl fl_X1_15 rfl dX1_find_26 ?_
            refine r_topi (w := nI (2 ^ v)) hI.2.1 ?_
            refine r_icmpN_ge C 101 dX1_find_29 (by decide) (by omega) (by omega) (fun h29 => ?_) (fun h29 => ?_)
            ·
              have hk9 : k = 2 ^ v := by omega
              rw [hk9] at hI
              refine r_aload_n C dX1_find_101 rfl 1 rfl ?_
              refine r_dup C dX1_find_102 rfl ?_
              refine r_get C (Cn := RX1) (T := TX1) (N := 2) (id := 127) (by decide) inw_X1 rfl rfl 1 (by decide) rfl fl_X1_15 rfl dX1_find_103 ?_
              refine r_topi (w := nI (2 ^ v)) hI.2.1 ?_
              refine r_iconst C (nI 2) dX1_find_106 (by decide) ?_
              refine r_imul C dX1_find_107 ?_
              refine r_topi (pk_mul (2 ^ v) 2) ?_
              refine r_put C (M2 := (mI M4 127 1 (nI ((2 ^ v) * 2)))) (Cn := RX1) (T := TX1) (N := 2) (id := 127) (by decide) inw_X1 tyX1_ok nmX1 rfl rfl 1 (by decide) rfl fl_X1_15 rfl rfl (rfl) (Nat.le_of_ble_eq_true rfl) (fun j hj => ⟨mI_ne _ hj, rfl⟩) rfl dX1_find_108 ?_
              refine r_iinc C (nI (v + 1)) [(2, .int (nI (v + 1))), (3, .int (nI k)), (0, .ref (ad 127)), (1, .ref (ad (gO 0)))] dX1_find_111 (j := 3) rfl (inc_n v 1) (by decide) rfl ?_
              refine r_goto C 14 dX1_find_114 (by decide) ?_
              refine r_lv (lv2 := [(2, .int (nI (v + 1))), (0, .ref (ad 127)), (1, .ref (ad (gO 0)))]) [0, 2, 3] rfl ?_
              exact ih_v (v + 1) _ (by omega) (by omega) (cf_v hI)
            ·
              refine r_aload_n C dX1_find_32 rfl 1 rfl ?_
              refine r_get C (Cn := RX1) (T := TX1) (N := 2) (id := 127) (by decide) inw_X1 rfl rfl 0 (by decide) rfl fl_X1_9 rfl dX1_find_33 ?_
              refine r_iload_n C dX1_find_36 rfl 0 rfl ?_
              refine r_iald C (id := 128) (n := 256) (a := k) (by decide) rfl (by omega) (by decide) dX1_find_37 ?_
              refine r_topi (w := (clW z v k)) ((hI.2.2 k (by omega)).trans (clW_lo (by omega))) ?_
              refine r_iconst C ((-1)) dX1_find_38 (by decide) ?_
              refine r_icmp_eq C 59 dX1_find_39 (by decide) (fun h39 => ?_) (fun h39 => ?_)
              ·
                refine r_iconst C (nI 0) dX1_find_59 (by decide) ?_
                refine r_topi (w := bI (!decide (clW z v k = -1) && decide (nI k &&& ntI (z (10 + v)) = 0))) (bI_off (by simp [h19, h29, h39])) ?_
                refine r_istore C [(4, .int (bI (!decide (clW z v k = -1) && decide (nI k &&& ntI (z (10 + v)) = 0)))), (3, .int (nI k)), (0, .ref (ad 127)), (1, .ref (ad (gO 0))), (2, .int (nI v))] dX1_find_60 (by decide) rfl ?_
                refine r_aload_n C dX1_find_62 rfl 2 rfl ?_
                refine r_get C (Cn := RX1) (T := TX1) (N := 2) (id := 127) (by decide) inw_X1 rfl rfl 0 (by decide) rfl fl_X1_9 rfl dX1_find_63 ?_
                refine r_aload_n C dX1_find_66 rfl 2 rfl ?_
                refine r_get C (Cn := RX1) (T := TX1) (N := 2) (id := 127) (by decide) inw_X1 rfl rfl 1 (by decide) rfl fl_X1_15 rfl dX1_find_67 ?_
                refine r_topi (w := nI (2 ^ v)) hI.2.1 ?_
                refine r_iload_n C dX1_find_70 rfl 1 rfl ?_
                refine r_iadd C dX1_find_71 ?_
                refine r_topi (nI_add (2 ^ v) k) ?_
                refine r_iload C dX1_find_72 0 rfl ?_
                refine r_ifB_eq C 93 dX1_find_74 (by decide) (fun h74 => ?_) (fun h74 => ?_)
                ·
                  refine r_iconst C ((-1)) dX1_find_93 (by decide) ?_
                  refine r_topi (w := clW z (v + 1) (2 ^ v + k)) (clW_hi.trans (if_neg (by rw [h74]; decide))).symm ?_
                  refine r_iast C (id := 128) (n := 256) (a := (2 ^ v) + k) (by decide) (fun _ => rfl) (by omega) (by decide) dX1_find_94 ?_
                  refine r_iinc C (nI (k + 1)) [(3, .int (nI (k + 1))), (4, .int (bI (!decide (clW z v k = -1) && decide (nI k &&& ntI (z (10 + v)) = 0)))), (0, .ref (ad 127)), (1, .ref (ad (gO 0))), (2, .int (nI v))] dX1_find_95 (j := 1) rfl (inc_n k 1) (by decide) rfl ?_
                  refine r_goto C 24 dX1_find_98 (by decide) ?_
                  refine r_lv (lv2 := [(3, .int (nI (k + 1))), (0, .ref (ad 127)), (1, .ref (ad (gO 0))), (2, .int (nI v))]) [0, 2, 3, 4] rfl ?_
                  exact ih (k + 1) _ (by omega) (by omega) (cf_s hI rfl)
                ·
                  refine r_aload_n C dX1_find_77 rfl 2 rfl ?_
                  refine r_get C (Cn := RX1) (T := TX1) (N := 2) (id := 127) (by decide) inw_X1 rfl rfl 0 (by decide) rfl fl_X1_9 rfl dX1_find_78 ?_
                  refine r_iload_n C dX1_find_81 rfl 1 rfl ?_
                  refine r_iald C (id := 128) (n := 256) (a := k) (by decide) rfl (by omega) (by decide) dX1_find_82 ?_
                  refine r_topi (w := (clW z v k)) ((hI.2.2 k (by omega)).trans (clW_lo (by omega))) ?_
                  refine r_aload_n C dX1_find_83 rfl 3 rfl ?_
                  refine r_get C (Cn := RX4) (T := TX4) (N := 6) (id := (gO 0)) (by simp only [gO, gN, gW, gL, gR, gH] <;> omega) inw_X4 (wF_O cs ad (by decide) _ _) rfl 3 (by decide) rfl fl_X1_27 rfl dX1_find_84 ?_
                  refine r_iload_n C dX1_find_87 rfl 4 rfl ?_
                  refine r_iald C (id := (gW 0)) (n := 8) (a := v) (by simp only [gO, gN, gW, gL, gR, gH] <;> omega) (wF_W cs ad (by decide) _ _) (by omega) (by decide) dX1_find_88 ?_
                  refine r_topi (w := (z (2 + v))) ((congrFun (hI.1.1 _ (by decide) (by decide)) v).trans (hg.2.2.2.1 v (by omega))) ?_
                  refine r_iadd C dX1_find_89 ?_
                  refine r_goto C 94 dX1_find_90 (by decide) ?_
                  refine r_topi (w := clW z (v + 1) (2 ^ v + k)) (clW_hi.trans (if_pos h74)).symm ?_
                  refine r_iast C (id := 128) (n := 256) (a := (2 ^ v) + k) (by decide) (fun _ => rfl) (by omega) (by decide) dX1_find_94 ?_
                  refine r_iinc C (nI (k + 1)) [(3, .int (nI (k + 1))), (4, .int (bI (!decide (clW z v k = -1) && decide (nI k &&& ntI (z (10 + v)) = 0)))), (0, .ref (ad 127)), (1, .ref (ad (gO 0))), (2, .int (nI v))] dX1_find_95 (j := 1) rfl (inc_n k 1) (by decide) rfl ?_
                  refine r_goto C 24 dX1_find_98 (by decide) ?_
                  refine r_lv (lv2 := [(3, .int (nI (k + 1))), (0, .ref (ad 127)), (1, .ref (ad (gO 0))), (2, .int (nI v))]) [0, 2, 3, 4] rfl ?_
                  exact ih (k + 1) _ (by omega) (by omega) (cf_s hI rfl)
              ·
                refine r_iload_n C dX1_find_42 rfl 0 rfl ?_
                refine r_aload_n C dX1_find_43 rfl 2 rfl ?_
                refine r_get C (Cn := RX4) (T := TX4) (N := 6) (id := (gO 0)) (by simp only [gO, gN, gW, gL, gR, gH] <;> omega) inw_X4 (wF_O cs ad (by decide) _ _) rfl 2 (by decide) rfl fl_X1_24 rfl dX1_find_44 ?_
                refine r_iload_n C dX1_find_47 rfl 3 rfl ?_
                refine r_iald C (id := (gN 0)) (n := 8) (a := v) (by simp only [gO, gN, gW, gL, gR, gH] <;> omega) (wF_N cs ad (by decide) _ _) (by omega) (by decide) dX1_find_48 ?_
                refine r_topi (w := (z (10 + v))) ((congrFun (hI.1.1 _ (by decide) (by decide)) v).trans (hg.2.2.1 v (by omega))) ?_
                refine r_iconst C ((-1)) dX1_find_49 (by decide) ?_
                refine r_ixor C dX1_find_50 ?_
                refine r_topi (w := ntI (z (10 + v))) rfl ?_
                refine r_iand C dX1_find_51 ?_
                refine r_if_ne C 59 dX1_find_52 (by decide) (fun h52 => ?_) (fun h52 => ?_)
                ·
                  refine r_iconst C (nI 0) dX1_find_59 (by decide) ?_
                  refine r_topi (w := bI (!decide (clW z v k = -1) && decide (nI k &&& ntI (z (10 + v)) = 0))) (bI_off (by simp [h19, h29, h39, h52])) ?_
                  refine r_istore C [(4, .int (bI (!decide (clW z v k = -1) && decide (nI k &&& ntI (z (10 + v)) = 0)))), (3, .int (nI k)), (0, .ref (ad 127)), (1, .ref (ad (gO 0))), (2, .int (nI v))] dX1_find_60 (by decide) rfl ?_
                  refine r_aload_n C dX1_find_62 rfl 2 rfl ?_
                  refine r_get C (Cn := RX1) (T := TX1) (N := 2) (id := 127) (by decide) inw_X1 rfl rfl 0 (by decide) rfl fl_X1_9 rfl dX1_find_63 ?_
                  refine r_aload_n C dX1_find_66 rfl 2 rfl ?_
                  refine r_get C (Cn := RX1) (T := TX1) (N := 2) (id := 127) (by decide) inw_X1 rfl rfl 1 (by decide) rfl fl_X1_15 rfl dX1_find_67 ?_
                  refine r_topi (w := nI (2 ^ v)) hI.2.1 ?_
                  refine r_iload_n C dX1_find_70 rfl 1 rfl ?_
                  refine r_iadd C dX1_find_71 ?_
                  refine r_topi (nI_add (2 ^ v) k) ?_
                  refine r_iload C dX1_find_72 0 rfl ?_
                  refine r_ifB_eq C 93 dX1_find_74 (by decide) (fun h74 => ?_) (fun h74 => ?_)
                  ·
                    refine r_iconst C ((-1)) dX1_find_93 (by decide) ?_
                    refine r_topi (w := clW z (v + 1) (2 ^ v + k)) (clW_hi.trans (if_neg (by rw [h74]; decide))).symm ?_
                    refine r_iast C (id := 128) (n := 256) (a := (2 ^ v) + k) (by decide) (fun _ => rfl) (by omega) (by decide) dX1_find_94 ?_
                    refine r_iinc C (nI (k + 1)) [(3, .int (nI (k + 1))), (4, .int (bI (!decide (clW z v k = -1) && decide (nI k &&& ntI (z (10 + v)) = 0)))), (0, .ref (ad 127)), (1, .ref (ad (gO 0))), (2, .int (nI v))] dX1_find_95 (j := 1) rfl (inc_n k 1) (by decide) rfl ?_
                    refine r_goto C 24 dX1_find_98 (by decide) ?_
                    refine r_lv (lv2 := [(3, .int (nI (k + 1))), (0, .ref (ad 127)), (1, .ref (ad (gO 0))), (2, .int (nI v))]) [0, 2, 3, 4] rfl ?_
                    exact ih (k + 1) _ (by omega) (by omega) (cf_s hI rfl)
                  ·
                    refine r_aload_n C dX1_find_77 rfl 2 rfl ?_
                    refine r_get C (Cn := RX1) (T := TX1) (N := 2) (id := 127) (by decide) inw_X1 rfl rfl 0 (by decide) rfl fl_X1_9 rfl dX1_find_78 ?_
                    refine r_iload_n C dX1_find_81 rfl 1 rfl ?_
                    refine r_iald C (id := 128) (n := 256) (a := k) (by decide) rfl (by omega) (by decide) dX1_find_82 ?_
                    refine r_topi (w := (clW z v k)) ((hI.2.2 k (by omega)).trans (clW_lo (by omega))) ?_
                    refine r_aload_n C dX1_find_83 rfl 3 rfl ?_
                    refine r_get C (Cn := RX4) (T := TX4) (N := 6) (id := (gO 0)) (by simp only [gO, gN, gW, gL, gR, gH] <;> omega) inw_X4 (wF_O cs ad (by decide) _ _) rfl 3 (by decide) rfl fl_X1_27 rfl dX1_find_84 ?_
                    refine r_iload_n C dX1_find_87 rfl 4 rfl ?_
                    refine r_iald C (id := (gW 0)) (n := 8) (a := v) (by simp only [gO, gN, gW, gL, gR, gH] <;> omega) (wF_W cs ad (by decide) _ _) (by omega) (by decide) dX1_find_88 ?_
                    refine r_topi (w := (z (2 + v))) ((congrFun (hI.1.1 _ (by decide) (by decide)) v).trans (hg.2.2.2.1 v (by omega))) ?_
                    refine r_iadd C dX1_find_89 ?_
                    refine r_goto C 94 dX1_find_90 (by decide) ?_
                    refine r_topi (w := clW z (v + 1) (2 ^ v + k)) (clW_hi.trans (if_pos h74)).symm ?_
                    refine r_iast C (id := 128) (n := 256) (a := (2 ^ v) + k) (by decide) (fun _ => rfl) (by omega) (by decide) dX1_find_94 ?_
                    refine r_iinc C (nI (k + 1)) [(3, .int (nI (k + 1))), (4, .int (bI (!decide (clW z v k = -1) && decide (nI k &&& ntI (z (10 + v)) = 0)))), (0, .ref (ad 127)), (1, .ref (ad (gO 0))), (2, .int (nI v))] dX1_find_95 (j := 1) rfl (inc_n k 1) (by decide) rfl ?_
                    refine r_goto C 24 dX1_find_98 (by decide) ?_
                    refine r_lv (lv2 := [(3, .int (nI (k + 1))), (0, .ref (ad 127)), (1, .ref (ad (gO 0))), (2, .int (nI v))]) [0, 2, 3, 4] rfl ?_
                    exact ih (k + 1) _ (by omega) (by omega) (cf_s hI rfl)
                ·
                  refine r_iconst C (nI 1) dX1_find_55 (by decide) ?_
                  refine r_goto C 60 dX1_find_56 (by decide) ?_
                  refine r_topi (w := bI (!decide (clW z v k = -1) && decide (nI k &&& ntI (z (10 + v)) = 0))) (bI_on (by simp [h19, h29, h39, h52])) ?_
                  refine r_istore C [(4, .int (bI (!decide (clW z v k = -1) && decide (nI k &&& ntI (z (10 + v)) = 0)))), (3, .int (nI k)), (0, .ref (ad 127)), (1, .ref (ad (gO 0))), (2, .int (nI v))] dX1_find_60 (by decide) rfl ?_
                  refine r_aload_n C dX1_find_62 rfl 2 rfl ?_
                  refine r_get C (Cn := RX1) (T := TX1) (N := 2) (id := 127) (by decide) inw_X1 rfl rfl 0 (by decide) rfl fl_X1_9 rfl dX1_find_63 ?_
                  refine r_aload_n C dX1_find_66 rfl 2 rfl ?_
                  refine r_get C (Cn := RX1) (T := TX1) (N := 2) (id := 127) (by decide) inw_X1 rfl rfl 1 (by decide) rfl fl_X1_15 rfl dX1_find_67 ?_
                  refine r_topi (w := nI (2 ^ v)) hI.2.1 ?_
                  refine r_iload_n C dX1_find_70 rfl 1 rfl ?_
                  refine r_iadd C dX1_find_71 ?_
                  refine r_topi (nI_add (2 ^ v) k) ?_
                  refine r_iload C dX1_find_72 0 rfl ?_
                  refine r_ifB_eq C 93 dX1_find_74 (by decide) (fun h74 => ?_) (fun h74 => ?_)
                  ·
                    refine r_iconst C ((-1)) dX1_find_93 (by decide) ?_
                    refine r_topi (w := clW z (v + 1) (2 ^ v + k)) (clW_hi.trans (if_neg (by rw [h74]; decide))).symm ?_
                    refine r_iast C (id := 128) (n := 256) (a := (2 ^ v) + k) (by decide) (fun _ => rfl) (by omega) (by decide) dX1_find_94 ?_
                    refine r_iinc C (nI (k + 1)) [(3, .int (nI (k + 1))), (4, .int (bI (!decide (clW z v k = -1) && decide (nI k &&& ntI (z (10 + v)) = 0)))), (0, .ref (ad 127)), (1, .ref (ad (gO 0))), (2, .int (nI v))] dX1_find_95 (j := 1) rfl (inc_n k 1) (by decide) rfl ?_
                    refine r_goto C 24 dX1_find_98 (by decide) ?_
                    refine r_lv (lv2 := [(3, .int (nI (k + 1))), (0, .ref (ad 127)), (1, .ref (ad (gO 0))), (2, .int (nI v))]) [0, 2, 3, 4] rfl ?_
                    exact ih (k + 1) _ (by omega) (by omega) (cf_s hI rfl)
                  ·
                    refine r_aload_n C dX1_find_77 rfl 2 rfl ?_
                    refine r_get C (Cn := RX1) (T := TX1) (N := 2) (id := 127) (by decide) inw_X1 rfl rfl 0 (by decide) rfl fl_X1_9 rfl dX1_find_78 ?_
                    refine r_iload_n C dX1_find_81 rfl 1 rfl ?_
                    refine r_iald C (id := 128) (n := 256) (a := k) (by decide) rfl (by omega) (by decide) dX1_find_82 ?_
                    refine r_topi (w := (clW z v k)) ((hI.2.2 k (by omega)).trans (clW_lo (by omega))) ?_
                    refine r_aload_n C dX1_find_83 rfl 3 rfl ?_
                    refine r_get C (Cn := RX4) (T := TX4) (N := 6) (id := (gO 0)) (by simp only [gO, gN, gW, gL, gR, gH] <;> omega) inw_X4 (wF_O cs ad (by decide) _ _) rfl 3 (by decide) rfl fl_X1_27 rfl dX1_find_84 ?_
                    refine r_iload_n C dX1_find_87 rfl 4 rfl ?_
                    refine r_iald C (id := (gW 0)) (n := 8) (a := v) (by simp only [gO, gN, gW, gL, gR, gH] <;> omega) (wF_W cs ad (by decide) _ _) (by omega) (by decide) dX1_find_88 ?_
                    refine r_topi (w := (z (2 + v))) ((congrFun (hI.1.1 _ (by decide) (by decide)) v).trans (hg.2.2.2.1 v (by omega))) ?_
                    refine r_iadd C dX1_find_89 ?_
                    refine r_goto C 94 dX1_find_90 (by decide) ?_
                    refine r_topi (w := clW z (v + 1) (2 ^ v + k)) (clW_hi.trans (if_pos h74)).symm ?_
                    refine r_iast C (id := 128) (n := 256) (a := (2 ^ v) + k) (by decide) (fun _ => rfl) (by omega) (by decide) dX1_find_94 ?_
                    refine r_iinc C (nI (k + 1)) [(3, .int (nI (k + 1))), (4, .int (bI (!decide (clW z v k = -1) && decide (nI k &&& ntI (z (10 + v)) = 0)))), (0, .ref (ad 127)), (1, .ref (ad (gO 0))), (2, .int (nI v))] dX1_find_95 (j := 1) rfl (inc_n k 1) (by decide) rfl ?_
                    refine r_goto C 24 dX1_find_98 (by decide) ?_
                    refine r_lv (lv2 := [(3, .int (nI (k + 1))), (0, .ref (ad 127)), (1, .ref (ad (gO 0))), (2, .int (nI v))]) [0, 2, 3, 4] rfl ?_
                    exact ih (k + 1) _ (by omega) (by omega) (cf_s hI rfl)
        refine r_lv (lv2 := [(3, .int (nI 0)), (0, .ref (ad 127)), (1, .ref (ad (gO 0))), (2, .int (nI v))]) [0, 2, 3, 1] rfl ?_
        exact Lq ((2 ^ v) + 1) 0 _ (by omega) (Nat.zero_le _) (cf_0 hI_v)
  refine r_lv (lv2 := [(2, .int (nI 0)), (0, .ref (ad 127)), (1, .ref (ad (gO 0)))]) [0, 1, 2] rfl ?_
  exact Lp (n + 1) 0 _ (by omega) (by omega) cf_a
set_option maxRecDepth 100000 in
set_option maxHeartbeats 4000000 in
theorem c_X1_weightOf (l : Launch) (D : va_G) (cs : Nat → ClassId) (ad : Nat → Nat) (M : Mm) (z : Nat → Int32) (n : Nat) (hn8 : n ≤ 8) (hq : cqV M z n) (m : Nat) (hm9 : m < 2 ^ n) : ∀ sz : Nat, Met l yX1_weightOf (.code yX1_weightOf cX1_weightOf 2 (some .int) :: TT) { frames := 0, cells := 0, slots := 0, locals := 0 } (va_Pc [.ref (ad 127), .int (nI m)] (fun U9 => U9.heap.size = sz ∧ wB D cs ad (fA ad sz) M U9)) (va_Qi (fun r M2 => r = clW z n m ∧ M2 = M) (wB D cs ad (fA ad sz)) (fA ad sz)) 0 0 (fA ad sz) := by
  have hp2 := p2_le hn8
  refine st_I (by decide) (Nat.le_of_ble_eq_true rfl) (fun κ C E => ?_)
  refine r_lv (lv2 := [(0, .ref (ad 127)), (1, .int (nI m))]) [0, 1] rfl ?_
  refine r_aload_n C dX1_weightOf_0 rfl 0 rfl ?_
  refine r_get C (Cn := RX1) (T := TX1) (N := 2) (id := 127) (by decide) inw_X1 rfl rfl 0 (by decide) rfl fl_X1_9 rfl dX1_weightOf_1 ?_
  refine r_iload_n C dX1_weightOf_4 rfl 1 rfl ?_
  refine r_iald C (id := 128) (n := 256) (a := m) (by decide) rfl (by omega) (by decide) dX1_weightOf_5 ?_
  refine r_topi (w := (clW z n m)) (hq.2 m hm9) ?_
  exact E 0 _ _ _ _ (Nat.le_of_ble_eq_true rfl) dX1_weightOf_6 (⟨rfl, rfl⟩)
set_option maxRecDepth 100000 in
set_option maxHeartbeats 4000000 in
theorem c_X1_heaviestWith (l : Launch) (D : va_G) (cs : Nat → ClassId) (ad : Nat → Nat) (M : Mm) (z : Nat → Int32) (n : Nat) (hn8 : n ≤ 8) (hq : cqV M z n) (w : Nat) (hw : w < 2 ^ n) : ∀ sz : Nat, Met l yX1_heaviestWith (.code yX1_heaviestWith cX1_heaviestWith 4 (some .int) :: TT) { frames := 0, cells := 0, slots := 0, locals := 0 } (va_Pc [.ref (ad 127), .int (nI w)] (fun U9 => U9.heap.size = sz ∧ wB D cs ad (fA ad sz) M U9)) (va_Qi (fun r M2 => r = nI (hcS z n w (2 ^ n)) ∧ M2 = M) (wB D cs ad (fA ad sz)) (fA ad sz)) 0 0 (fA ad sz) := by
  have hp2 := p2_le hn8
  refine st_I (by decide) (Nat.le_of_ble_eq_true rfl) (fun κ C E => ?_)
  refine r_lv (lv2 := [(0, .ref (ad 127)), (1, .int (nI w))]) [0, 1] rfl ?_
  refine r_iload_n C dX1_heaviestWith_0 rfl 1 rfl ?_
  refine r_istore_n C [(2, .int (nI w)), (0, .ref (ad 127)), (1, .int (nI w))] dX1_heaviestWith_1 rfl (by decide) rfl ?_
  refine r_iconst C (nI 0) dX1_heaviestWith_2 (by decide) ?_
  refine r_istore_n C [(3, .int (nI 0)), (2, .int (nI w)), (0, .ref (ad 127)), (1, .int (nI w))] dX1_heaviestWith_3 rfl (by decide) rfl ?_
  have Lp : ∀ (f_s s : Nat), (2 ^ n) + 1 ≤ s + f_s → s ≤ (2 ^ n) → VV l D cs ad 4 κ 0 M 4 [(3, .int (nI s)), (2, .int (nI (hcS z n w s))), (0, .ref (ad 127)), (1, .int (nI w))] [] := by
    intro f_s
    induction f_s with
    | zero => intro s hk1_s hk2_s; exact absurd hk1_s (by omega)
    | succ f_s ih_s =>
      intro s hk1_s hk2_s
      have hcl := hcS_lt (z := z) hw (show s ≤ 2 ^ n by omega)
      refine r_iload_n C dX1_heaviestWith_4 rfl 0 rfl ?_
      refine r_aload_n C dX1_heaviestWith_5 rfl 2 rfl ?_
      refine r_get C (Cn := RX1) (T := TX1) (N := 2) (id := 127) (by decide) inw_X1 rfl rfl 1 (by decide) rfl fl_X1_15 rfl dX1_heaviestWith_6 ?_
      refine r_topi (w := nI (2 ^ n)) hq.1 ?_
      refine r_icmpN_ge C 42 dX1_heaviestWith_9 (by decide) (by omega) (by omega) (fun h9 => ?_) (fun h9 => ?_)
      ·
        have hk9 : s = 2 ^ n := by omega
        rw [hk9]
        refine r_iload_n C dX1_heaviestWith_42 rfl 1 rfl ?_
        exact E 0 _ _ _ _ (Nat.le_of_ble_eq_true rfl) dX1_heaviestWith_43 (⟨rfl, rfl⟩)
      ·
        refine r_iload_n C dX1_heaviestWith_12 rfl 0 rfl ?_
        refine r_iload_n C dX1_heaviestWith_13 rfl 3 rfl ?_
        refine r_iand C dX1_heaviestWith_14 ?_
        refine r_iload_n C dX1_heaviestWith_15 rfl 3 rfl ?_
        refine r_icmp_ne C 36 dX1_heaviestWith_16 (by decide) (fun h16 => ?_) (fun h16 => ?_)
        ·
          refine r_lve (lv2 := [(3, .int (nI s)), (2, .int (nI (hcS z n w (s + 1)))), (0, .ref (ad 127)), (1, .int (nI w))]) (by rw [show hcS z n w (s + 1) = _ from if_neg (fun q => h16 q.1)]) ?_
          refine r_iinc C (nI (s + 1)) [(3, .int (nI (s + 1))), (2, .int (nI (hcS z n w (s + 1)))), (0, .ref (ad 127)), (1, .int (nI w))] dX1_heaviestWith_36 (j := 0) rfl (inc_n s 1) (by decide) rfl ?_
          refine r_goto C 4 dX1_heaviestWith_39 (by decide) ?_
          refine r_lv (lv2 := [(3, .int (nI (s + 1))), (2, .int (nI (hcS z n w (s + 1)))), (0, .ref (ad 127)), (1, .int (nI w))]) [0, 1, 2, 3] rfl ?_
          exact ih_s (s + 1) (by omega) (by omega)
        ·
          refine r_aload_n C dX1_heaviestWith_19 rfl 2 rfl ?_
          refine r_get C (Cn := RX1) (T := TX1) (N := 2) (id := 127) (by decide) inw_X1 rfl rfl 0 (by decide) rfl fl_X1_9 rfl dX1_heaviestWith_20 ?_
          refine r_iload_n C dX1_heaviestWith_23 rfl 0 rfl ?_
          refine r_iald C (id := 128) (n := 256) (a := s) (by decide) rfl (by omega) (by decide) dX1_heaviestWith_24 ?_
          refine r_topi (w := (clW z n s)) (hq.2 s (by omega)) ?_
          refine r_aload_n C dX1_heaviestWith_25 rfl 2 rfl ?_
          refine r_get C (Cn := RX1) (T := TX1) (N := 2) (id := 127) (by decide) inw_X1 rfl rfl 0 (by decide) rfl fl_X1_9 rfl dX1_heaviestWith_26 ?_
          refine r_iload_n C dX1_heaviestWith_29 rfl 1 rfl ?_
          refine r_iald C (id := 128) (n := 256) (a := hcS z n w s) (by decide) rfl (by omega) (by decide) dX1_heaviestWith_30 ?_
          refine r_topi (w := (clW z n (hcS z n w s))) (hq.2 _ (hcS_lt hw (by omega))) ?_
          refine r_icmp_le C 36 dX1_heaviestWith_31 (by decide) (fun h31 => ?_) (fun h31 => ?_)
          ·
            refine r_lve (lv2 := [(3, .int (nI s)), (2, .int (nI (hcS z n w (s + 1)))), (0, .ref (ad 127)), (1, .int (nI w))]) (by rw [show hcS z n w (s + 1) = _ from if_neg (fun q => q.2 h31)]) ?_
            refine r_iinc C (nI (s + 1)) [(3, .int (nI (s + 1))), (2, .int (nI (hcS z n w (s + 1)))), (0, .ref (ad 127)), (1, .int (nI w))] dX1_heaviestWith_36 (j := 0) rfl (inc_n s 1) (by decide) rfl ?_
            refine r_goto C 4 dX1_heaviestWith_39 (by decide) ?_
            refine r_lv (lv2 := [(3, .int (nI (s + 1))), (2, .int (nI (hcS z n w (s + 1)))), (0, .ref (ad 127)), (1, .int (nI w))]) [0, 1, 2, 3] rfl ?_
            exact ih_s (s + 1) (by omega) (by omega)
          ·
            refine r_iload_n C dX1_heaviestWith_34 rfl 0 rfl ?_
            refine r_istore_n C [(2, .int (nI s)), (3, .int (nI s)), (0, .ref (ad 127)), (1, .int (nI w))] dX1_heaviestWith_35 rfl (by decide) rfl ?_
            refine r_lve (lv2 := [(2, .int (nI (hcS z n w (s + 1)))), (3, .int (nI s)), (0, .ref (ad 127)), (1, .int (nI w))]) (by rw [show hcS z n w (s + 1) = _ from if_pos ⟨h16, h31⟩]) ?_
            refine r_iinc C (nI (s + 1)) [(3, .int (nI (s + 1))), (2, .int (nI (hcS z n w (s + 1)))), (0, .ref (ad 127)), (1, .int (nI w))] dX1_heaviestWith_36 (j := 1) rfl (inc_n s 1) (by decide) rfl ?_
            refine r_goto C 4 dX1_heaviestWith_39 (by decide) ?_
            refine r_lv (lv2 := [(3, .int (nI (s + 1))), (2, .int (nI (hcS z n w (s + 1)))), (0, .ref (ad 127)), (1, .int (nI w))]) [0, 1, 2, 3] rfl ?_
            exact ih_s (s + 1) (by omega) (by omega)
  refine r_lv (lv2 := [(3, .int (nI 0)), (2, .int (nI (hcS z n w 0))), (0, .ref (ad 127)), (1, .int (nI w))]) [0, 1, 2, 3] rfl ?_
  exact Lp ((2 ^ n) + 1) 0 (by omega) (Nat.zero_le _)
set_option maxRecDepth 100000 in
set_option maxHeartbeats 4000000 in
theorem c_X1_mostVertices (l : Launch) (D : va_G) (cs : Nat → ClassId) (ad : Nat → Nat) (M : Mm) (z : Nat → Int32) (n : Nat) (hn8 : n ≤ 8) (hq : cqV M z n) : ∀ sz : Nat, Met l yX1_mostVertices (.code yX1_mostVertices cX1_mostVertices 3 (some .int) :: TT) { frames := 1, cells := 0, slots := 0, locals := 21 } (va_Pc [.ref (ad 127)] (fun U9 => U9.heap.size = sz ∧ wB D cs ad (fA ad sz) M U9)) (va_Qi (fun r M2 => r = mcS z n (2 ^ n) ∧ M2 = M) (wB D cs ad (fA ad sz)) (fA ad sz)) 0 0 (fA ad sz) := by
  have hp2 := p2_le hn8
  refine st_I (by decide) (Nat.le_of_ble_eq_true rfl) (fun κ C E => ?_)
  refine r_lv (lv2 := [(0, .ref (ad 127))]) [0] rfl ?_
  refine r_iconst C (nI 0) dX1_mostVertices_0 (by decide) ?_
  refine r_istore_n C [(1, .int (nI 0)), (0, .ref (ad 127))] dX1_mostVertices_1 rfl (by decide) rfl ?_
  refine r_iconst C (nI 0) dX1_mostVertices_2 (by decide) ?_
  refine r_istore_n C [(2, .int (nI 0)), (1, .int (nI 0)), (0, .ref (ad 127))] dX1_mostVertices_3 rfl (by decide) rfl ?_
  have Lp : ∀ (f_s s : Nat), (2 ^ n) + 1 ≤ s + f_s → s ≤ (2 ^ n) → VV l D cs ad 3 κ 0 M 4 [(2, .int (nI s)), (1, .int (mcS z n s)), (0, .ref (ad 127))] [] := by
    intro f_s
    induction f_s with
    | zero => intro s hk1_s hk2_s; exact absurd hk1_s (by omega)
    | succ f_s ih_s =>
      intro s hk1_s hk2_s
      refine r_iload_n C dX1_mostVertices_4 rfl 0 rfl ?_
      refine r_aload_n C dX1_mostVertices_5 rfl 2 rfl ?_
      refine r_get C (Cn := RX1) (T := TX1) (N := 2) (id := 127) (by decide) inw_X1 rfl rfl 1 (by decide) rfl fl_X1_15 rfl dX1_mostVertices_6 ?_
      refine r_topi (w := nI (2 ^ n)) hq.1 ?_
      refine r_icmpN_ge C 37 dX1_mostVertices_9 (by decide) (by omega) (by omega) (fun h9 => ?_) (fun h9 => ?_)
      ·
        have hk9 : s = 2 ^ n := by omega
        rw [hk9]
        refine r_iload_n C dX1_mostVertices_37 rfl 1 rfl ?_
        exact E 0 _ _ _ _ (Nat.le_of_ble_eq_true rfl) dX1_mostVertices_38 (⟨rfl, rfl⟩)
      ·
        refine r_aload_n C dX1_mostVertices_12 rfl 2 rfl ?_
        refine r_get C (Cn := RX1) (T := TX1) (N := 2) (id := 127) (by decide) inw_X1 rfl rfl 0 (by decide) rfl fl_X1_9 rfl dX1_mostVertices_13 ?_
        refine r_iload_n C dX1_mostVertices_16 rfl 0 rfl ?_
        refine r_iald C (id := 128) (n := 256) (a := s) (by decide) rfl (by omega) (by decide) dX1_mostVertices_17 ?_
        refine r_topi (w := (clW z n s)) (hq.2 s (by omega)) ?_
        refine r_iconst C ((-1)) dX1_mostVertices_18 (by decide) ?_
        refine r_icmp_eq C 31 dX1_mostVertices_19 (by decide) (fun h19 => ?_) (fun h19 => ?_)
        ·
          refine r_lve (lv2 := [(2, .int (nI s)), (1, .int (mcS z n (s + 1))), (0, .ref (ad 127))]) (by rw [show mcS z n (s + 1) = _ from if_pos h19]) ?_
          refine r_iinc C (nI (s + 1)) [(2, .int (nI (s + 1))), (1, .int (mcS z n (s + 1))), (0, .ref (ad 127))] dX1_mostVertices_31 (j := 0) rfl (inc_n s 1) (by decide) rfl ?_
          refine r_goto C 4 dX1_mostVertices_34 (by decide) ?_
          refine r_lv (lv2 := [(2, .int (nI (s + 1))), (1, .int (mcS z n (s + 1))), (0, .ref (ad 127))]) [0, 1, 2] rfl ?_
          exact ih_s (s + 1) (by omega) (by omega)
        ·
          refine r_iload_n C dX1_mostVertices_22 rfl 1 rfl ?_
          refine r_iload_n C dX1_mostVertices_23 rfl 0 rfl ?_
          refine r_pcallS2_i (nA := 1) C (Nat.le_of_ble_eq_true rfl) [.int (nI s)] (c_bitCount l D cs ad M (nI s) ) (tt_S2 ml_X1_28 st_J6_bitCount_0f7a4 in_J6 co_J6_bitCount_0f7a4) ⟨rfl, rfl⟩ ⟨by decide, by decide, by decide⟩ ⟨Nat.le_of_ble_eq_true rfl, Nat.le_of_ble_eq_true rfl⟩ rfl rfl (Nat.le_of_ble_eq_true rfl) dX1_mostVertices_24 ?_
          refine r_mmax C (Nat.le_of_ble_eq_true rfl) ml_X1_34 st_mmax in_J9 co_mmax (Nat.le_of_ble_eq_true rfl) (Nat.le_of_ble_eq_true rfl) dX1_mostVertices_27 ?_
          refine r_istore_n C [(1, .int (if (mcS z n s) < (bcI (nI s)) then (bcI (nI s)) else (mcS z n s))), (2, .int (nI s)), (0, .ref (ad 127))] dX1_mostVertices_30 rfl (by decide) rfl ?_
          refine r_lve (lv2 := [(1, .int (mcS z n (s + 1))), (2, .int (nI s)), (0, .ref (ad 127))]) (by rw [show mcS z n (s + 1) = _ from if_neg h19]) ?_
          refine r_iinc C (nI (s + 1)) [(2, .int (nI (s + 1))), (1, .int (mcS z n (s + 1))), (0, .ref (ad 127))] dX1_mostVertices_31 (j := 1) rfl (inc_n s 1) (by decide) rfl ?_
          refine r_goto C 4 dX1_mostVertices_34 (by decide) ?_
          refine r_lv (lv2 := [(2, .int (nI (s + 1))), (1, .int (mcS z n (s + 1))), (0, .ref (ad 127))]) [0, 1, 2] rfl ?_
          exact ih_s (s + 1) (by omega) (by omega)
  refine r_lv (lv2 := [(2, .int (nI 0)), (1, .int (mcS z n 0)), (0, .ref (ad 127))]) [0, 1, 2] rfl ?_
  exact Lp ((2 ^ n) + 1) 0 (by omega) (Nat.zero_le _)
