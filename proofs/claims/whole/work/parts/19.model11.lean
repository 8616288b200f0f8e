/-! ===== labels by colors, the hash (written by wip/whole/gen/model11.py) ===== -/
/-- the labels made of the coloring, the first t numbers of them -/
def lcT (z c : Nat → Int32) (t : Nat) : Nat → Int32 := fun j => if 18 ≤ j ∧ j < 18 + t then (if nI ((j - 18) % 4) = c ((j - 18) / 4) then nI 1 else nI 0) else z j
theorem lcT_0 (z c : Nat → Int32) : lcT z c 0 = z := by funext j; unfold lcT; rw [if_neg (by omega)]
theorem lcT_s {z c : Nat → Int32} {v p : Nat} (hp : p < 4) : upd (lcT z c (4 * v + p)) (18 + 4 * v + p) (if nI p = c v then nI 1 else nI 0) = lcT z c (4 * v + (p + 1)) := by
  funext j
  by_cases e : j = 18 + 4 * v + p
  · subst e
    rw [upd_e]
    show _ = (if _ then _ else _)
    rw [if_pos (show 18 ≤ 18 + 4 * v + p ∧ 18 + 4 * v + p < 18 + (4 * v + (p + 1)) by omega)]
    have e1 : (18 + 4 * v + p - 18) % 4 = p := by omega
    have e2 : (18 + 4 * v + p - 18) / 4 = v := by omega
    rw [e1, e2]
  · rw [upd_n _ _ e]; unfold lcT
    by_cases q : 18 ≤ j ∧ j < 18 + (4 * v + p)
    · rw [if_pos q, if_pos (show 18 ≤ j ∧ j < 18 + (4 * v + (p + 1)) by omega)]
    · rw [if_neg q, if_neg (show ¬ (18 ≤ j ∧ j < 18 + (4 * v + (p + 1))) by omega)]
def lcH (cn p : Nat) : Int32 := if p < cn then nI 1 else nI 0
/-- only scratch and the hash differ -/
def SD (M M2 : Mm) : Prop := (∀ i, i ≠ 135 → i ≠ 141 → i ≠ 142 → i ≠ 143 → i ≠ 144 → M2.1 i = M.1 i) ∧ (∀ k, k ≠ 10 → M2.1 135 k = M.1 135 k) ∧ (∀ i, i ≠ 135 → M2.2 i = M.2 i)
theorem SC.sd {M M2 : Mm} (h : SC M M2) : SD M M2 := ⟨h.1, h.2.1, h.2.2.1⟩
theorem SD.tr {A B C : Mm} (h : SD A B) (g : SD B C) : SD A C := ⟨fun i a b c d e => (g.1 i a b c d e).trans (h.1 i a b c d e), fun k q => (g.2.1 k q).trans (h.2.1 k q), fun i q => (g.2.2 i q).trans (h.2.2 i q)⟩
theorem SD.r {M M2 : Mm} (h : SD M M2) (i : Nat) (hi : i ≠ 135 ∧ i ≠ 141 ∧ i ≠ 142 ∧ i ≠ 143 ∧ i ≠ 144) : M2.1 i = M.1 i := h.1 i hi.1 hi.2.1 hi.2.2.1 hi.2.2.2.1 hi.2.2.2.2
theorem SD.c {M M2 : Mm} (h : SD M M2) (i j : Nat) (hi : i ≠ 135 ∧ i ≠ 141 ∧ i ≠ 142 ∧ i ≠ 143 ∧ i ≠ 144) : M2.1 i j = M.1 i j := congrFun (h.r i hi) j
theorem SD.hash (M : Mm) (v : Int64) : SD M (mJ M 135 17 v) := ⟨fun _ _ _ _ _ _ => rfl, fun _ _ => rfl, fun i hi => mJ_ne _ hi⟩
/-- a hash that goes on over v 0 .. v (k - 1), those with c alone -/
def hsC (c : Nat → Bool) (v : Nat → Int64) (h : Int64) : Nat → Int64
  | 0 => h
  | k + 1 => if c k = true then 31 * hsC c v h k + v k else hsC c v h k
/-- the hash goes on by x, over scratch -/
def hI9 (M M9 : Mm) (h : Int64) : Prop := SD M M9 ∧ M9.2 135 17 = h
theorem hI9.mix {M M9 M8 : Mm} {h : Int64} (a : hI9 M M9 h) (b : SC M9 M8) (x : Int64) : hI9 M (mJ M8 135 17 (31 * M8.2 135 17 + x)) (31 * h + x) := by
  refine ⟨a.1.tr (b.sd.tr (SD.hash _ _)), ?_⟩
  rw [mJ_eq]
  show 31 * M8.2 135 17 + x = _
  rw [b.2.2.2, a.2]
def cV (w : Nat) : Bool := decide (w < 6) || decide (9 < w)
def cB (w : Nat) : Bool := decide (w < 2) || decide (9 < w)
def cT (_ : Nat) : Bool := true
def mvz (z : Nat → Int32) (n v : Nat) (h : Int64) : Int64 := hsC cT (fun o => if bt (z (10 + v)) o = true then 1 else 0) (hsC cV (fun w => (vnz z n v w).toInt64) h 14) n
def mvs (z : Nat → Int32) (n : Nat) (h : Int64) : Nat → Int64
  | 0 => h
  | v + 1 => mvz z n v (mvs z n h v)
set_option maxRecDepth 100000 in
set_option maxHeartbeats 4000000 in
theorem c_X8_labelByColors (l : Launch) (D : va_G) (cs : Nat → ClassId) (ad : Nat → Nat) (M : Mm) (n : Nat) (hn : M.1 136 0 = nI n) (hn8 : n ≤ 8) (d : Nat) (hd : M.1 136 1 = nI d) (hd4 : d ≤ 4) (s : Nat) (hs : M.1 135 1 = nI s) (hs6 : s ≤ 6) (hn1 : 1 ≤ n) (hex : fi (fun k => (cfC (M.1 136) n k).isSome) n < n) (hcd : cnK (M.1 136) n ≤ d) : ∀ sz : Nat, Met l yX8_labelByColors (.code yX8_labelByColors cX8_labelByColors 4 (some .int) :: TT) { frames := 5, cells := 0, slots := 0, locals := 109 } (va_Pc [.ref (ad 135)] (fun U9 => U9.heap.size = sz ∧ wB D cs ad (fA ad sz) M U9)) (va_Qi (fun r M2 => ∃ c2, r = nI (cnK (M.1 136) n) ∧ M2 = mA (saveM (mI (mA M 141 c2) 135 7 (nI 0)) s) 136 (rsK (lcT (M.1 136) (crs (M.1 136) n) (4 * n)) (lcH (cnK (M.1 136) n)) 4)) (wB D cs ad (fA ad sz)) (fA ad sz)) 0 0 (fA ad sz) := by
  refine st_I (by decide) (Nat.le_of_ble_eq_true rfl) (fun κ C E => ?_)
  refine r_lv (lv2 := [(0, .ref (ad 135))]) [0] rfl ?_
  refine r_aload_n C dX8_labelByColors_0 rfl 0 rfl ?_
  refine r_callV_i (nA := 0) C (Nat.le_of_ble_eq_true rfl) [] (c_X8_colorAll l D cs ad M  n hn hn8 hn1 hex) (tt_V ml_X8_147 im_X8_colorAll se_X8_colorAll in_X8 co_X8_colorAll) ⟨rfl, rfl⟩ ⟨rfl, by decide, by decide, by decide⟩ ⟨Nat.le_of_ble_eq_true rfl, Nat.le_of_ble_eq_true rfl⟩ (by decide) rfl rfl rfl rfl rfl (Nat.le_of_ble_eq_true rfl) dX8_labelByColors_1 (fun ru1 Mu1 qu1 => ?_)
  obtain ⟨c2, rfl, rfl, hc2⟩ := qu1
  refine r_istore_n C [(1, .int (nI (cnK (M.1 136) n))), (0, .ref (ad 135))] dX8_labelByColors_4 rfl (by decide) rfl ?_
  refine r_aload_n C dX8_labelByColors_5 rfl 1 rfl ?_
  refine r_iload_n C dX8_labelByColors_6 rfl 0 rfl ?_
  refine r_aload_n C dX8_labelByColors_7 rfl 1 rfl ?_
  refine r_get C (Cn := RX8) (T := TX8) (N := 18) (id := 135) (by decide) inw_X8 rfl rfl 0 (by decide) rfl fl_X8_7 rfl dX8_labelByColors_8 ?_
  refine r_iconst C (nI 1) dX8_labelByColors_11 (by decide) ?_
  refine r_iald C (id := 136) (n := 55) (a := 1) (by decide) rfl (by decide) (by decide) dX8_labelByColors_12 ?_
  refine r_topi (w := (M.1 136 1)) (rfl) ?_
  refine r_topi hd ?_
  refine r_icmpN_le C 20 dX8_labelByColors_13 (by decide) (by omega) (by omega) (fun h13 => ?_) (fun h13 => ?_)
  ·
    refine r_iconst C (nI 0) dX8_labelByColors_20 (by decide) ?_
    refine r_put C (M2 := (mI (mA M 141 c2) 135 7 (nI 0))) (Cn := RX8) (T := TX8) (N := 18) (id := 135) (by decide) inw_X8 tyX8_ok nmX8 rfl rfl 7 (by decide) rfl fl_X8_41 rfl rfl (rfl) (Nat.le_of_ble_eq_true rfl) (fun j hj => ⟨mI_ne _ hj, rfl⟩) rfl dX8_labelByColors_21 ?_
    refine r_aload_n C dX8_labelByColors_24 rfl 1 rfl ?_
    refine r_get C (Cn := RX8) (T := TX8) (N := 18) (id := 135) (by decide) inw_X8 rfl rfl 7 (by decide) rfl fl_X8_41 rfl dX8_labelByColors_25 ?_
    refine r_topi (w := nI 0) (rfl) ?_
    refine r_if_le C 33 dX8_labelByColors_28 (by decide) (fun h28 => ?_) (fun h28 => ?_)
    ·
      refine r_aload_n C dX8_labelByColors_33 rfl 1 rfl ?_
      refine r_pcallV_v (nA := 0) C (Nat.le_of_ble_eq_true rfl) [] (c_X8_save l D cs ad (mI (mA M 141 c2) 135 7 (nI 0))  s hs hs6) (tt_V ml_X8_110 im_X8_save se_X8_save in_X8 co_X8_save) ⟨rfl, rfl⟩ ⟨rfl, by decide, by decide, by decide⟩ ⟨Nat.le_of_ble_eq_true rfl, Nat.le_of_ble_eq_true rfl⟩ (by decide) rfl rfl rfl rfl rfl (Nat.le_of_ble_eq_true rfl) dX8_labelByColors_34 ?_
      refine r_iconst C (nI 0) dX8_labelByColors_37 (by decide) ?_
      refine r_istore_n C [(2, .int (nI 0)), (1, .int (nI (cnK (M.1 136) n))), (0, .ref (ad 135))] dX8_labelByColors_38 rfl (by decide) rfl ?_
      have Lo : ∀ (f_v v : Nat), n + 1 ≤ v + f_v → v ≤ n → VV l D cs ad 4 κ 0 (mA (saveM (mI (mA M 141 c2) 135 7 (nI 0)) s) 136 (lcT (M.1 136) (crs (M.1 136) n) (4 * v))) 39 [(2, .int (nI v)), (1, .int (nI (cnK (M.1 136) n))), (0, .ref (ad 135))] [] := by
        intro f_v
        induction f_v with
        | zero => intro v hk1_v hk2_v; exact absurd hk1_v (by omega)
        | succ f_v ih_v =>
          intro v hk1_v hk2_v
          refine r_iload_n C dX8_labelByColors_39 rfl 0 rfl ?_
          refine r_aload_n C dX8_labelByColors_40 rfl 2 rfl ?_
          refine r_get C (Cn := RX8) (T := TX8) (N := 18) (id := 135) (by decide) inw_X8 rfl rfl 0 (by decide) rfl fl_X8_7 rfl dX8_labelByColors_41 ?_
          refine r_iconst C (nI 0) dX8_labelByColors_44 (by decide) ?_
          refine r_iald C (id := 136) (n := 55) (a := 0) (by decide) rfl (by decide) (by decide) dX8_labelByColors_45 ?_
          refine r_topi (w := nI n) (hn) ?_
          refine r_icmpN_ge C 94 dX8_labelByColors_46 (by decide) (by omega) (by omega) (fun h46 => ?_) (fun h46 => ?_)
          ·
            have hk9 : n = v := by omega
            subst hk9
            refine r_iconst C (nI 0) dX8_labelByColors_94 (by decide) ?_
            refine r_istore_n C [(2, .int (nI 0)), (1, .int (nI (cnK (M.1 136) n))), (0, .ref (ad 135))] dX8_labelByColors_95 rfl (by decide) rfl ?_
            have Lh : ∀ (f_p p : Nat), 4 + 1 ≤ p + f_p → p ≤ 4 → VV l D cs ad 4 κ 0 (mA (saveM (mI (mA M 141 c2) 135 7 (nI 0)) s) 136 (rsK (lcT (M.1 136) (crs (M.1 136) n) (4 * n)) (lcH (cnK (M.1 136) n)) p)) 96 [(2, .int (nI p)), (1, .int (nI (cnK (M.1 136) n))), (0, .ref (ad 135))] [] := by
              intro f_p
              induction f_p with
              | zero => intro p hk1_p hk2_p; exact absurd hk1_p (by omega)
              | succ f_p ih_p =>
                intro p hk1_p hk2_p
                refine r_iload_n C dX8_labelByColors_96 rfl 0 rfl ?_
                refine r_iconst C (nI 4) dX8_labelByColors_97 (by decide) ?_
                refine r_icmpN_ge C 126 dX8_labelByColors_98 (by decide) (by omega) (by omega) (fun h98 => ?_) (fun h98 => ?_)
                ·
                  have hk9 : 4 = p := by omega
                  subst hk9
                  refine r_iload_n C dX8_labelByColors_126 rfl 1 rfl ?_
                  exact E 0 _ _ _ _ (Nat.le_of_ble_eq_true rfl) dX8_labelByColors_127 (⟨c2, rfl, rfl⟩)
                ·
                  refine r_aload_n C dX8_labelByColors_101 rfl 2 rfl ?_
                  refine r_get C (Cn := RX8) (T := TX8) (N := 18) (id := 135) (by decide) inw_X8 rfl rfl 0 (by decide) rfl fl_X8_7 rfl dX8_labelByColors_102 ?_
                  refine r_bipush C (nI 50) dX8_labelByColors_105 (by decide) ?_
                  refine r_iload_n C dX8_labelByColors_107 rfl 0 rfl ?_
                  refine r_iadd C dX8_labelByColors_108 ?_
                  refine r_topi (nI_add 50 p) ?_
                  refine r_iload_n C dX8_labelByColors_109 rfl 0 rfl ?_
                  refine r_iload_n C dX8_labelByColors_110 rfl 1 rfl ?_
                  refine r_icmpN_ge C 118 dX8_labelByColors_111 (by decide) (by omega) (by omega) (fun h111 => ?_) (fun h111 => ?_)
                  ·
                    refine r_iconst C (nI 0) dX8_labelByColors_118 (by decide) ?_
                    refine r_topi (w := (lcH (cnK (M.1 136) n) p)) (by unfold lcH; first | rw [if_pos (by omega)] | rw [if_neg (by omega)]) ?_
                    refine r_iast C (id := 136) (n := 55) (a := 50 + p) (by decide) (fun _ => rfl) (by omega) (by decide) dX8_labelByColors_119 ?_
                    refine r_iinc C (nI (p + 1)) [(2, .int (nI (p + 1))), (1, .int (nI (cnK (M.1 136) n))), (0, .ref (ad 135))] dX8_labelByColors_120 (j := 0) rfl (inc_n p 1) (by decide) rfl ?_
                    refine r_goto C 96 dX8_labelByColors_123 (by decide) ?_
                    refine r_lv (lv2 := [(2, .int (nI (p + 1))), (1, .int (nI (cnK (M.1 136) n))), (0, .ref (ad 135))]) [0, 1, 2] rfl ?_
                    refine r_mem (M2 := (mA (saveM (mI (mA M 141 c2) 135 7 (nI 0)) s) 136 (rsK (lcT (M.1 136) (crs (M.1 136) n) (4 * n)) (lcH (cnK (M.1 136) n)) (p + 1)))) (by rw [mIA]; exact congrArg _ (rsK_s _ (lcH (cnK (M.1 136) n)) _)) ?_
                    exact ih_p (p + 1) (by omega) (by omega)
                  ·
                    refine r_iconst C (nI 1) dX8_labelByColors_114 (by decide) ?_
                    refine r_goto C 119 dX8_labelByColors_115 (by decide) ?_
                    refine r_topi (w := (lcH (cnK (M.1 136) n) p)) (by unfold lcH; first | rw [if_pos (by omega)] | rw [if_neg (by omega)]) ?_
                    refine r_iast C (id := 136) (n := 55) (a := 50 + p) (by decide) (fun _ => rfl) (by omega) (by decide) dX8_labelByColors_119 ?_
                    refine r_iinc C (nI (p + 1)) [(2, .int (nI (p + 1))), (1, .int (nI (cnK (M.1 136) n))), (0, .ref (ad 135))] dX8_labelByColors_120 (j := 0) rfl (inc_n p 1) (by decide) rfl ?_
                    refine r_goto C 96 dX8_labelByColors_123 (by decide) ?_
                    refine r_lv (lv2 := [(2, .int (nI (p + 1))), (1, .int (nI (cnK (M.1 136) n))), (0, .ref (ad 135))]) [0, 1, 2] rfl ?_
                    refine r_mem (M2 := (mA (saveM (mI (mA M 141 c2) 135 7 (nI 0)) s) 136 (rsK (lcT (M.1 136) (crs (M.1 136) n) (4 * n)) (lcH (cnK (M.1 136) n)) (p + 1)))) (by rw [mIA]; exact congrArg _ (rsK_s _ (lcH (cnK (M.1 136) n)) _)) ?_
                    exact ih_p (p + 1) (by omega) (by omega)
            refine r_lv (lv2 := [(2, .int (nI 0)), (1, .int (nI (cnK (M.1 136) n))), (0, .ref (ad 135))]) [0, 1, 2] rfl ?_
            refine r_mem (M2 := (mA (saveM (mI (mA M 141 c2) 135 7 (nI 0)) s) 136 (rsK (lcT (M.1 136) (crs (M.1 136) n) (4 * n)) (lcH (cnK (M.1 136) n)) 0))) (by rw [rsK_0]) ?_
            exact Lh (4 + 1) 0 (by omega) (by omega)
          ·
            refine r_iconst C (nI 0) dX8_labelByColors_49 (by decide) ?_
            refine r_istore_n C [(3, .int (nI 0)), (2, .int (nI v)), (1, .int (nI (cnK (M.1 136) n))), (0, .ref (ad 135))] dX8_labelByColors_50 rfl (by decide) rfl ?_
            have Li : ∀ (f_p p : Nat), 4 + 1 ≤ p + f_p → p ≤ 4 → VV l D cs ad 4 κ 0 (mA (saveM (mI (mA M 141 c2) 135 7 (nI 0)) s) 136 (lcT (M.1 136) (crs (M.1 136) n) (4 * v + p))) 51 [(3, .int (nI p)), (2, .int (nI v)), (1, .int (nI (cnK (M.1 136) n))), (0, .ref (ad 135))] [] := by
              intro f_p
              induction f_p with
              | zero => intro p hk1_p hk2_p; exact absurd hk1_p (by omega)
              | succ f_p ih_p =>
                intro p hk1_p hk2_p
                refine r_iload_n C dX8_labelByColors_51 rfl 0 rfl ?_
                refine r_iconst C (nI 4) dX8_labelByColors_52 (by decide) ?_
                refine r_icmpN_ge C 88 dX8_labelByColors_53 (by decide) (by omega) (by omega) (fun h53 => ?_) (fun h53 => ?_)
                ·
                  have hk9 : 4 = p := by omega
                  subst hk9
                  refine r_iinc C (nI (v + 1)) [(2, .int (nI (v + 1))), (3, .int (nI 4)), (1, .int (nI (cnK (M.1 136) n))), (0, .ref (ad 135))] dX8_labelByColors_88 (j := 1) rfl (inc_n v 1) (by decide) rfl ?_
                  refine r_goto C 39 dX8_labelByColors_91 (by decide) ?_
                  refine r_lv (lv2 := [(2, .int (nI (v + 1))), (1, .int (nI (cnK (M.1 136) n))), (0, .ref (ad 135))]) [0, 2, 3] rfl ?_
                  refine r_mem (M2 := (mA (saveM (mI (mA M 141 c2) 135 7 (nI 0)) s) 136 (lcT (M.1 136) (crs (M.1 136) n) (4 * (v + 1))))) (rfl) ?_
                  exact ih_v (v + 1) (by omega) (by omega)
                ·
                  refine r_aload_n C dX8_labelByColors_56 rfl 3 rfl ?_
                  refine r_get C (Cn := RX8) (T := TX8) (N := 18) (id := 135) (by decide) inw_X8 rfl rfl 0 (by decide) rfl fl_X8_7 rfl dX8_labelByColors_57 ?_
                  refine r_iload_n C dX8_labelByColors_60 rfl 1 rfl ?_
                  refine r_pcallS_i (nA := 1) C (Nat.le_of_ble_eq_true rfl) [.int (nI v)] (c_X8_labelAt l D cs ad (mA (saveM (mI (mA M 141 c2) 135 7 (nI 0)) s) 136 (lcT (M.1 136) (crs (M.1 136) n) (4 * v + p))) v ) (tt_S ml_X8_56 st_X8_labelAt in_X8 co_X8_labelAt) ⟨rfl, rfl⟩ ⟨rfl, by decide, by decide, by decide⟩ ⟨Nat.le_of_ble_eq_true rfl, Nat.le_of_ble_eq_true rfl⟩ rfl rfl (Nat.le_of_ble_eq_true rfl) dX8_labelByColors_61 ?_
                  refine r_topi (w := nI (18 + 4 * v)) rfl ?_
                  refine r_iload_n C dX8_labelByColors_64 rfl 0 rfl ?_
                  refine r_iadd C dX8_labelByColors_65 ?_
                  refine r_topi (nI_add (18 + 4 * v) p) ?_
                  refine r_iload_n C dX8_labelByColors_66 rfl 0 rfl ?_
                  refine r_aload_n C dX8_labelByColors_67 rfl 3 rfl ?_
                  refine r_get C (Cn := RX8) (T := TX8) (N := 18) (id := 135) (by decide) inw_X8 rfl rfl 11 (by decide) rfl fl_X8_25 rfl dX8_labelByColors_68 ?_
                  refine r_iload_n C dX8_labelByColors_71 rfl 1 rfl ?_
                  refine r_iald C (id := 141) (n := 8) (a := v) (by decide) rfl (by omega) (by decide) dX8_labelByColors_72 ?_
                  refine r_topi (w := (crs (M.1 136) n v)) (hc2 v (by omega)) ?_
                  refine r_icmp_ne C 80 dX8_labelByColors_73 (by decide) (fun h73 => ?_) (fun h73 => ?_)
                  ·
                    refine r_iconst C (nI 0) dX8_labelByColors_80 (by decide) ?_
                    refine r_topi (w := (if nI p = crs (M.1 136) n v then nI 1 else nI 0)) (by simp [h13, h28, h46, h53, h73]) ?_
                    refine r_iast C (id := 136) (n := 55) (a := (18 + 4 * v) + p) (by decide) (fun _ => rfl) (by omega) (by decide) dX8_labelByColors_81 ?_
                    refine r_iinc C (nI (p + 1)) [(3, .int (nI (p + 1))), (2, .int (nI v)), (1, .int (nI (cnK (M.1 136) n))), (0, .ref (ad 135))] dX8_labelByColors_82 (j := 0) rfl (inc_n p 1) (by decide) rfl ?_
                    refine r_goto C 51 dX8_labelByColors_85 (by decide) ?_
                    refine r_lv (lv2 := [(3, .int (nI (p + 1))), (2, .int (nI v)), (1, .int (nI (cnK (M.1 136) n))), (0, .ref (ad 135))]) [0, 1, 2, 3] rfl ?_
                    refine r_mem (M2 := (mA (saveM (mI (mA M 141 c2) 135 7 (nI 0)) s) 136 (lcT (M.1 136) (crs (M.1 136) n) (4 * v + (p + 1))))) (by rw [mIA]; exact congrArg _ (lcT_s (by omega))) ?_
                    exact ih_p (p + 1) (by omega) (by omega)
                  ·
                    refine r_iconst C (nI 1) dX8_labelByColors_76 (by decide) ?_
                    refine r_goto C 81 dX8_labelByColors_77 (by decide) ?_
                    refine r_topi (w := (if nI p = crs (M.1 136) n v then nI 1 else nI 0)) (by simp [h13, h28, h46, h53, h73]) ?_
                    refine r_iast C (id := 136) (n := 55) (a := (18 + 4 * v) + p) (by decide) (fun _ => rfl) (by omega) (by decide) dX8_labelByColors_81 ?_
                    refine r_iinc C (nI (p + 1)) [(3, .int (nI (p + 1))), (2, .int (nI v)), (1, .int (nI (cnK (M.1 136) n))), (0, .ref (ad 135))] dX8_labelByColors_82 (j := 0) rfl (inc_n p 1) (by decide) rfl ?_
                    refine r_goto C 51 dX8_labelByColors_85 (by decide) ?_
                    refine r_lv (lv2 := [(3, .int (nI (p + 1))), (2, .int (nI v)), (1, .int (nI (cnK (M.1 136) n))), (0, .ref (ad 135))]) [0, 1, 2, 3] rfl ?_
                    refine r_mem (M2 := (mA (saveM (mI (mA M 141 c2) 135 7 (nI 0)) s) 136 (lcT (M.1 136) (crs (M.1 136) n) (4 * v + (p + 1))))) (by rw [mIA]; exact congrArg _ (lcT_s (by omega))) ?_
                    exact ih_p (p + 1) (by omega) (by omega)
            refine r_lv (lv2 := [(3, .int (nI 0)), (2, .int (nI v)), (1, .int (nI (cnK (M.1 136) n))), (0, .ref (ad 135))]) [0, 1, 2, 3] rfl ?_
            refine r_mem (M2 := (mA (saveM (mI (mA M 141 c2) 135 7 (nI 0)) s) 136 (lcT (M.1 136) (crs (M.1 136) n) (4 * v + 0)))) (rfl) ?_
            exact Li (4 + 1) 0 (by omega) (by omega)
      refine r_lv (lv2 := [(2, .int (nI 0)), (1, .int (nI (cnK (M.1 136) n))), (0, .ref (ad 135))]) [0, 1, 2] rfl ?_
      refine r_mem (M2 := (mA (saveM (mI (mA M 141 c2) 135 7 (nI 0)) s) 136 (lcT (M.1 136) (crs (M.1 136) n) (4 * 0)))) (mA_id (lcT_0 _ _)) ?_
      exact Lo (n + 1) 0 (by omega) (by omega)
    · exact absurd h28 (by decide)
  · exact absurd hcd h13
set_option maxRecDepth 100000 in
set_option maxHeartbeats 4000000 in
theorem c_X8_labelByColorsX (l : Launch) (D : va_G) (cs : Nat → ClassId) (ad : Nat → Nat) (M : Mm) (n : Nat) (hn : M.1 136 0 = nI n) (hn8 : n ≤ 8) (d : Nat) (hd : M.1 136 1 = nI d) (hd4 : d ≤ 4) (hn1 : 1 ≤ n) (hex : fi (fun k => (cfC (M.1 136) n k).isSome) n < n) (hcd : ¬ cnK (M.1 136) n ≤ d) : ∀ sz : Nat, Met l yX8_labelByColors (.code yX8_labelByColors cX8_labelByColors 4 (some .int) :: TT) { frames := 5, cells := 0, slots := 0, locals := 109 } (va_Pc [.ref (ad 135)] (fun U9 => U9.heap.size = sz ∧ wB D cs ad (fA ad sz) M U9)) (va_Qi (fun r M2 => ∃ c2, r = nI 0 ∧ M2 = mI (mA M 141 c2) 135 7 (nI 1)) (wB D cs ad (fA ad sz)) (fA ad sz)) 0 0 (fA ad sz) := by
  have hcl : cnK (M.1 136) n ≤ 9 := by unfold cnK; omega
  refine st_I (by decide) (Nat.le_of_ble_eq_true rfl) (fun κ C E => ?_)
  refine r_lv (lv2 := [(0, .ref (ad 135))]) [0] rfl ?_
  refine r_aload_n C dX8_labelByColors_0 rfl 0 rfl ?_
  refine r_callV_i (nA := 0) C (Nat.le_of_ble_eq_true rfl) [] (c_X8_colorAll l D cs ad M  n hn hn8 hn1 hex) (tt_V ml_X8_147 im_X8_colorAll se_X8_colorAll in_X8 co_X8_colorAll) ⟨rfl, rfl⟩ ⟨rfl, by decide, by decide, by decide⟩ ⟨Nat.le_of_ble_eq_true rfl, Nat.le_of_ble_eq_true rfl⟩ (by decide) rfl rfl rfl rfl rfl (Nat.le_of_ble_eq_true rfl) dX8_labelByColors_1 (fun ru1 Mu1 qu1 => ?_)
  obtain ⟨c2, rfl, rfl, hc2⟩ := qu1
  refine r_istore_n C [(1, .int (nI (cnK (M.1 136) n))), (0, .ref (ad 135))] dX8_labelByColors_4 rfl (by decide) rfl ?_
  refine r_aload_n C dX8_labelByColors_5 rfl 1 rfl ?_
  refine r_iload_n C dX8_labelByColors_6 rfl 0 rfl ?_
  refine r_aload_n C dX8_labelByColors_7 rfl 1 rfl ?_
  refine r_get C (Cn := RX8) (T := TX8) (N := 18) (id := 135) (by decide) inw_X8 rfl rfl 0 (by decide) rfl fl_X8_7 rfl dX8_labelByColors_8 ?_
  refine r_iconst C (nI 1) dX8_labelByColors_11 (by decide) ?_
  refine r_iald C (id := 136) (n := 55) (a := 1) (by decide) rfl (by decide) (by decide) dX8_labelByColors_12 ?_
  refine r_topi (w := (M.1 136 1)) (rfl) ?_
  refine r_topi hd ?_
  refine r_icmpN_le C 20 dX8_labelByColors_13 (by decide) (by omega) (by omega) (fun h13 => ?_) (fun h13 => ?_)
  · exact absurd h13 hcd
  ·
    refine r_iconst C (nI 1) dX8_labelByColors_16 (by decide) ?_
    refine r_goto C 21 dX8_labelByColors_17 (by decide) ?_
    refine r_put C (M2 := (mI (mA M 141 c2) 135 7 (nI 1))) (Cn := RX8) (T := TX8) (N := 18) (id := 135) (by decide) inw_X8 tyX8_ok nmX8 rfl rfl 7 (by decide) rfl fl_X8_41 rfl rfl (rfl) (Nat.le_of_ble_eq_true rfl) (fun j hj => ⟨mI_ne _ hj, rfl⟩) rfl dX8_labelByColors_21 ?_
    refine r_aload_n C dX8_labelByColors_24 rfl 1 rfl ?_
    refine r_get C (Cn := RX8) (T := TX8) (N := 18) (id := 135) (by decide) inw_X8 rfl rfl 7 (by decide) rfl fl_X8_41 rfl dX8_labelByColors_25 ?_
    refine r_topi (w := nI 1) (rfl) ?_
    refine r_if_le C 33 dX8_labelByColors_28 (by decide) (fun h28 => ?_) (fun h28 => ?_)
    · exact absurd h28 (by decide)
    ·
      refine r_iconst C (nI 0) dX8_labelByColors_31 (by decide) ?_
      exact E 0 _ _ _ _ (Nat.le_of_ble_eq_true rfl) dX8_labelByColors_32 (⟨c2, rfl, rfl⟩)
set_option maxRecDepth 100000 in
set_option maxHeartbeats 4000000 in
theorem c_X8_mix (l : Launch) (D : va_G) (cs : Nat → ClassId) (ad : Nat → Nat) (M : Mm) (x : Int64) : ∀ sz : Nat, Met l yX8_mix (.code yX8_mix cX8_mix 3 none :: TT) { frames := 0, cells := 0, slots := 0, locals := 0 } (va_Pc [.ref (ad 135), .long x] (fun U9 => U9.heap.size = sz ∧ wB D cs ad (fA ad sz) M U9)) (va_Qv (fun M2 => M2 = mJ M 135 17 (31 * M.2 135 17 + x)) (wB D cs ad (fA ad sz)) (fA ad sz)) 0 0 (fA ad sz) := by
  refine st_V (by decide) (Nat.le_of_ble_eq_true rfl) (fun κ C E => ?_)
  refine r_lv (lv2 := [(0, .ref (ad 135)), (1, .long x)]) [0, 1] rfl ?_
  refine r_aload_n C dX8_mix_0 rfl 0 rfl ?_
  refine r_ldc2 C (31) k_X8_215 dX8_mix_1 ?_
  refine r_aload_n C dX8_mix_4 rfl 0 rfl ?_
  refine r_get C (Cn := RX8) (T := TX8) (N := 18) (id := 135) (by decide) inw_X8 rfl rfl 17 (by decide) rfl fl_X8_217 rfl dX8_mix_5 ?_
  refine r_lmul C dX8_mix_8 ?_
  refine r_lload_n C dX8_mix_9 rfl 1 rfl ?_
  refine r_ladd C dX8_mix_10 ?_
  refine r_put C (M2 := (mJ M 135 17 (((31) * (M.2 135 17)) + x))) (Cn := RX8) (T := TX8) (N := 18) (id := 135) (by decide) inw_X8 tyX8_ok nmX8 rfl rfl 17 (by decide) rfl fl_X8_217 rfl rfl (rfl) (Nat.le_of_ble_eq_true rfl) (fun j hj => ⟨rfl, mJ_ne _ hj⟩) rfl dX8_mix_11 ?_
  exact E 0 _ _ _ (Nat.le_of_ble_eq_true rfl) dX8_mix_14 (rfl)
set_option maxRecDepth 100000 in
set_option maxHeartbeats 4000000 in
theorem c_X8_mixVertex (l : Launch) (D : va_G) (cs : Nat → ClassId) (ad : Nat → Nat) (M : Mm) (v : Nat) (n : Nat) (hn : M.1 136 0 = nI n) (hn8 : n ≤ 8) (hn1 : 1 ≤ n) (hex : fi (fun k => (cfC (M.1 136) n k).isSome) n < n) (hv : v < n) : ∀ sz : Nat, Met l yX8_mixVertex (.code yX8_mixVertex cX8_mixVertex 3 none :: TT) { frames := 7, cells := 0, slots := 0, locals := 153 } (va_Pc [.ref (ad 135), .int (nI v)] (fun U9 => U9.heap.size = sz ∧ wB D cs ad (fA ad sz) M U9)) (va_Qv (fun M2 => hI9 M M2 (mvz (M.1 136) n v (M.2 135 17))) (wB D cs ad (fA ad sz)) (fA ad sz)) 0 0 (fA ad sz) := by
  refine st_V (by decide) (Nat.le_of_ble_eq_true rfl) (fun κ C E => ?_)
  refine r_lv (lv2 := [(0, .ref (ad 135)), (1, .int (nI v))]) [0, 1] rfl ?_
  refine r_iconst C (nI 0) dX8_mixVertex_0 (by decide) ?_
  refine r_istore_n C [(2, .int (nI 0)), (0, .ref (ad 135)), (1, .int (nI v))] dX8_mixVertex_1 rfl (by decide) rfl ?_
  have Lw : ∀ (f_w w : Nat) (M9 : Mm), 14 + 1 ≤ w + f_w → w ≤ 14 → hI9 M M9 (hsC cV (fun w => (vnz (M.1 136) n v w).toInt64) (M.2 135 17) w) → VV l D cs ad 3 κ 0 M9 2 [(2, .int (nI w)), (0, .ref (ad 135)), (1, .int (nI v))] [] := by
    intro f_w
    induction f_w with
    | zero => intro w M9 hk1_w hk2_w hI_w; exact absurd hk1_w (by omega)
    | succ f_w ih_w =>
      intro w M9 hk1_w hk2_w hI_w
      refine r_iload_n C dX8_mixVertex_2 rfl 0 rfl ?_
      refine r_bipush C (nI 14) dX8_mixVertex_3 (by decide) ?_
      refine r_icmpN_ge C 37 dX8_mixVertex_5 (by decide) (by omega) (by omega) (fun h5 => ?_) (fun h5 => ?_)
      ·
        have hk9 : 14 = w := by omega
        subst hk9
        refine r_iconst C (nI 0) dX8_mixVertex_37 (by decide) ?_
        refine r_istore_n C [(2, .int (nI 0)), (0, .ref (ad 135)), (1, .int (nI v))] dX8_mixVertex_38 rfl (by decide) rfl ?_
        have Lo : ∀ (f_o o : Nat) (M9 : Mm), n + 1 ≤ o + f_o → o ≤ n → hI9 M M9 (hsC cT (fun o => if bt (M.1 136 (10 + v)) o = true then 1 else 0) (hsC cV (fun w => (vnz (M.1 136) n v w).toInt64) (M.2 135 17) 14) o) → VV l D cs ad 3 κ 0 M9 39 [(2, .int (nI o)), (0, .ref (ad 135)), (1, .int (nI v))] [] := by
          intro f_o
          induction f_o with
          | zero => intro o M9 hk1_o hk2_o hI_o; exact absurd hk1_o (by omega)
          | succ f_o ih_o =>
            intro o M9 hk1_o hk2_o hI_o
            refine r_iload_n C dX8_mixVertex_39 rfl 0 rfl ?_
            refine r_aload_n C dX8_mixVertex_40 rfl 1 rfl ?_
            refine r_get C (Cn := RX8) (T := TX8) (N := 18) (id := 135) (by decide) inw_X8 rfl rfl 0 (by decide) rfl fl_X8_7 rfl dX8_mixVertex_41 ?_
            refine r_iconst C (nI 0) dX8_mixVertex_44 (by decide) ?_
            refine r_iald C (id := 136) (n := 55) (a := 0) (by decide) rfl (by decide) (by decide) dX8_mixVertex_45 ?_
            refine r_topi (w := (M.1 136 0)) (SD.c hI_o.1 136 0 (by decide)) ?_
            refine r_topi hn ?_
            refine r_icmpN_ge C 73 dX8_mixVertex_46 (by decide) (by omega) (by omega) (fun h46 => ?_) (fun h46 => ?_)
            ·
              have hk9 : n = o := by omega
              subst hk9
              exact E 0 _ _ _ (Nat.le_of_ble_eq_true rfl) dX8_mixVertex_73 (hI_o)
            ·
              refine r_aload_n C dX8_mixVertex_49 rfl 1 rfl ?_
              refine r_aload_n C dX8_mixVertex_50 rfl 1 rfl ?_
              refine r_iload_n C dX8_mixVertex_51 rfl 2 rfl ?_
              refine r_iload_n C dX8_mixVertex_52 rfl 0 rfl ?_
              refine r_pcallV_i (nA := 2) C (Nat.le_of_ble_eq_true rfl) [.int (nI v), .int (nI o)] (c_X8_areJoined l D cs ad M9 v o (by omega)) (tt_V ml_X8_67 im_X8_areJoined se_X8_areJoined in_X8 co_X8_areJoined) ⟨rfl, rfl⟩ ⟨rfl, by decide, by decide, by decide⟩ ⟨Nat.le_of_ble_eq_true rfl, Nat.le_of_ble_eq_true rfl⟩ (by decide) rfl rfl rfl rfl rfl (Nat.le_of_ble_eq_true rfl) dX8_mixVertex_53 ?_
              refine r_topi (w := bI (bt (M9.1 136 (10 + v)) o)) rfl ?_
              refine r_topi (w := bI (bt (M.1 136 (10 + v)) o)) (by rw [SD.r hI_o.1 136 (by decide)]) ?_
              refine r_ifB_eq C 63 dX8_mixVertex_56 (by decide) (fun h56 => ?_) (fun h56 => ?_)
              ·
                refine r_lconst C (lN 0) dX8_mixVertex_63 rfl ?_
                refine r_topl (w := if bt (M.1 136 (10 + v)) o = true then 1 else 0) (by simp [h5, h46, h56]; rfl) ?_
                refine r_pcallV_v (nA := 1) C (Nat.le_of_ble_eq_true rfl) [.long (if bt (M.1 136 (10 + v)) o = true then 1 else 0)] (c_X8_mix l D cs ad M9 (if bt (M.1 136 (10 + v)) o = true then 1 else 0) ) (tt_V ml_X8_220 im_X8_mix se_X8_mix in_X8 co_X8_mix) ⟨rfl, rfl⟩ ⟨rfl, by decide, by decide, by decide⟩ ⟨Nat.le_of_ble_eq_true rfl, Nat.le_of_ble_eq_true rfl⟩ (by decide) rfl rfl rfl rfl rfl (Nat.le_of_ble_eq_true rfl) dX8_mixVertex_64 ?_
                refine r_iinc C (nI (o + 1)) [(2, .int (nI (o + 1))), (0, .ref (ad 135)), (1, .int (nI v))] dX8_mixVertex_67 (j := 0) rfl (inc_n o 1) (by decide) rfl ?_
                refine r_goto C 39 dX8_mixVertex_70 (by decide) ?_
                refine r_lv (lv2 := [(2, .int (nI (o + 1))), (0, .ref (ad 135)), (1, .int (nI v))]) [0, 1, 2] rfl ?_
                have hJ : hI9 M (mJ M9 135 17 (31 * M9.2 135 17 + (if bt (M.1 136 (10 + v)) o = true then 1 else 0))) (hsC cT (fun o => if bt (M.1 136 (10 + v)) o = true then 1 else 0) (hsC cV (fun w => (vnz (M.1 136) n v w).toInt64) (M.2 135 17) 14) (o + 1)) := by have e := hI9.mix hI_o (SC.rf M9) (if bt (M.1 136 (10 + v)) o = true then 1 else 0); exact e
                exact ih_o (o + 1) _ (by omega) (by omega) hJ
              ·
                refine r_lconst C (lN 1) dX8_mixVertex_59 rfl ?_
                refine r_goto C 64 dX8_mixVertex_60 (by decide) ?_
                refine r_topl (w := if bt (M.1 136 (10 + v)) o = true then 1 else 0) (by simp [h5, h46, h56]; rfl) ?_
                refine r_pcallV_v (nA := 1) C (Nat.le_of_ble_eq_true rfl) [.long (if bt (M.1 136 (10 + v)) o = true then 1 else 0)] (c_X8_mix l D cs ad M9 (if bt (M.1 136 (10 + v)) o = true then 1 else 0) ) (tt_V ml_X8_220 im_X8_mix se_X8_mix in_X8 co_X8_mix) ⟨rfl, rfl⟩ ⟨rfl, by decide, by decide, by decide⟩ ⟨Nat.le_of_ble_eq_true rfl, Nat.le_of_ble_eq_true rfl⟩ (by decide) rfl rfl rfl rfl rfl (Nat.le_of_ble_eq_true rfl) dX8_mixVertex_64 ?_
                refine r_iinc C (nI (o + 1)) [(2, .int (nI (o + 1))), (0, .ref (ad 135)), (1, .int (nI v))] dX8_mixVertex_67 (j := 0) rfl (inc_n o 1) (by decide) rfl ?_
                refine r_goto C 39 dX8_mixVertex_70 (by decide) ?_
                refine r_lv (lv2 := [(2, .int (nI (o + 1))), (0, .ref (ad 135)), (1, .int (nI v))]) [0, 1, 2] rfl ?_
                have hJ : hI9 M (mJ M9 135 17 (31 * M9.2 135 17 + (if bt (M.1 136 (10 + v)) o = true then 1 else 0))) (hsC cT (fun o => if bt (M.1 136 (10 + v)) o = true then 1 else 0) (hsC cV (fun w => (vnz (M.1 136) n v w).toInt64) (M.2 135 17) 14) (o + 1)) := by have e := hI9.mix hI_o (SC.rf M9) (if bt (M.1 136 (10 + v)) o = true then 1 else 0); exact e
                exact ih_o (o + 1) _ (by omega) (by omega) hJ
        refine r_lv (lv2 := [(2, .int (nI 0)), (0, .ref (ad 135)), (1, .int (nI v))]) [0, 1, 2] rfl ?_
        exact Lo (n + 1) 0 _ (by omega) (by omega) hI_w
      ·
        refine r_iload_n C dX8_mixVertex_8 rfl 0 rfl ?_
        refine r_bipush C (nI 6) dX8_mixVertex_9 (by decide) ?_
        refine r_icmpN_lt C 20 dX8_mixVertex_11 (by decide) (by omega) (by omega) (fun h11 => ?_) (fun h11 => ?_)
        ·
          refine r_aload_n C dX8_mixVertex_20 rfl 1 rfl ?_
          refine r_aload_n C dX8_mixVertex_21 rfl 1 rfl ?_
          refine r_iload_n C dX8_mixVertex_22 rfl 2 rfl ?_
          refine r_iload_n C dX8_mixVertex_23 rfl 0 rfl ?_
          refine r_callV_i (nA := 2) C (Nat.le_of_ble_eq_true rfl) [.int (nI v), .int (nI w)] (c_X8_vertexNow l D cs ad M9 v w n ((SD.c hI_w.1 136 0 (by decide)).trans hn) hn8 hn1 (by rw [SD.r hI_w.1 136 (by decide)]; exact hex) (by omega) (by omega)) (tt_V ml_X8_183 im_X8_vertexNow se_X8_vertexNow in_X8 co_X8_vertexNow) ⟨rfl, rfl⟩ ⟨rfl, by decide, by decide, by decide⟩ ⟨Nat.le_of_ble_eq_true rfl, Nat.le_of_ble_eq_true rfl⟩ (by decide) rfl rfl rfl rfl rfl (Nat.le_of_ble_eq_true rfl) dX8_mixVertex_24 (fun ru1 Mu1 qu1 => ?_)
          obtain ⟨rfl, hSu1⟩ := qu1
          refine r_topi (w := (vnz (M.1 136) n v w)) (by rw [SD.r hI_w.1 136 (by decide)]) ?_
          refine r_i2l C dX8_mixVertex_27 ?_
          refine r_pcallV_v (nA := 1) C (Nat.le_of_ble_eq_true rfl) [.long ((vnz (M.1 136) n v w).toInt64)] (c_X8_mix l D cs ad Mu1 ((vnz (M.1 136) n v w).toInt64) ) (tt_V ml_X8_220 im_X8_mix se_X8_mix in_X8 co_X8_mix) ⟨rfl, rfl⟩ ⟨rfl, by decide, by decide, by decide⟩ ⟨Nat.le_of_ble_eq_true rfl, Nat.le_of_ble_eq_true rfl⟩ (by decide) rfl rfl rfl rfl rfl (Nat.le_of_ble_eq_true rfl) dX8_mixVertex_28 ?_
          refine r_iinc C (nI (w + 1)) [(2, .int (nI (w + 1))), (0, .ref (ad 135)), (1, .int (nI v))] dX8_mixVertex_31 (j := 0) rfl (inc_n w 1) (by decide) rfl ?_
          refine r_goto C 2 dX8_mixVertex_34 (by decide) ?_
          refine r_lv (lv2 := [(2, .int (nI (w + 1))), (0, .ref (ad 135)), (1, .int (nI v))]) [0, 1, 2] rfl ?_
          have hJ : hI9 M (mJ Mu1 135 17 (31 * Mu1.2 135 17 + ((vnz (M.1 136) n v w).toInt64))) (hsC cV (fun w => (vnz (M.1 136) n v w).toInt64) (M.2 135 17) (w + 1)) := by have e := hI9.mix hI_w hSu1 (vnz (M.1 136) n v w).toInt64; unfold hsC; rw [if_pos (by unfold cV; simp only [Bool.or_eq_true, decide_eq_true_eq]; omega)]; exact e
          exact ih_w (w + 1) _ (by omega) (by omega) hJ
        ·
          refine r_iload_n C dX8_mixVertex_14 rfl 0 rfl ?_
          refine r_bipush C (nI 9) dX8_mixVertex_15 (by decide) ?_
          refine r_icmpN_le C 31 dX8_mixVertex_17 (by decide) (by omega) (by omega) (fun h17 => ?_) (fun h17 => ?_)
          ·
            refine r_iinc C (nI (w + 1)) [(2, .int (nI (w + 1))), (0, .ref (ad 135)), (1, .int (nI v))] dX8_mixVertex_31 (j := 0) rfl (inc_n w 1) (by decide) rfl ?_
            refine r_goto C 2 dX8_mixVertex_34 (by decide) ?_
            refine r_lv (lv2 := [(2, .int (nI (w + 1))), (0, .ref (ad 135)), (1, .int (nI v))]) [0, 1, 2] rfl ?_
            have hJ : hI9 M M9 (hsC cV (fun w => (vnz (M.1 136) n v w).toInt64) (M.2 135 17) (w + 1)) := by unfold hsC; rw [if_neg (by unfold cV; simp only [Bool.or_eq_true, decide_eq_true_eq]; omega)]; exact hI_w
            exact ih_w (w + 1) _ (by omega) (by omega) hJ
          ·
            refine r_aload_n C dX8_mixVertex_20 rfl 1 rfl ?_
            refine r_aload_n C dX8_mixVertex_21 rfl 1 rfl ?_
            refine r_iload_n C dX8_mixVertex_22 rfl 2 rfl ?_
            refine r_iload_n C dX8_mixVertex_23 rfl 0 rfl ?_
            refine r_callV_i (nA := 2) C (Nat.le_of_ble_eq_true rfl) [.int (nI v), .int (nI w)] (c_X8_vertexNow l D cs ad M9 v w n ((SD.c hI_w.1 136 0 (by decide)).trans hn) hn8 hn1 (by rw [SD.r hI_w.1 136 (by decide)]; exact hex) (by omega) (by omega)) (tt_V ml_X8_183 im_X8_vertexNow se_X8_vertexNow in_X8 co_X8_vertexNow) ⟨rfl, rfl⟩ ⟨rfl, by decide, by decide, by decide⟩ ⟨Nat.le_of_ble_eq_true rfl, Nat.le_of_ble_eq_true rfl⟩ (by decide) rfl rfl rfl rfl rfl (Nat.le_of_ble_eq_true rfl) dX8_mixVertex_24 (fun ru2 Mu2 qu2 => ?_)
            obtain ⟨rfl, hSu2⟩ := qu2
            refine r_topi (w := (vnz (M.1 136) n v w)) (by rw [SD.r hI_w.1 136 (by decide)]) ?_
            refine r_i2l C dX8_mixVertex_27 ?_
            refine r_pcallV_v (nA := 1) C (Nat.le_of_ble_eq_true rfl) [.long ((vnz (M.1 136) n v w).toInt64)] (c_X8_mix l D cs ad Mu2 ((vnz (M.1 136) n v w).toInt64) ) (tt_V ml_X8_220 im_X8_mix se_X8_mix in_X8 co_X8_mix) ⟨rfl, rfl⟩ ⟨rfl, by decide, by decide, by decide⟩ ⟨Nat.le_of_ble_eq_true rfl, Nat.le_of_ble_eq_true rfl⟩ (by decide) rfl rfl rfl rfl rfl (Nat.le_of_ble_eq_true rfl) dX8_mixVertex_28 ?_
            refine r_iinc C (nI (w + 1)) [(2, .int (nI (w + 1))), (0, .ref (ad 135)), (1, .int (nI v))] dX8_mixVertex_31 (j := 0) rfl (inc_n w 1) (by decide) rfl ?_
            refine r_goto C 2 dX8_mixVertex_34 (by decide) ?_
            refine r_lv (lv2 := [(2, .int (nI (w + 1))), (0, .ref (ad 135)), (1, .int (nI v))]) [0, 1, 2] rfl ?_
            have hJ : hI9 M (mJ Mu2 135 17 (31 * Mu2.2 135 17 + ((vnz (M.1 136) n v w).toInt64))) (hsC cV (fun w => (vnz (M.1 136) n v w).toInt64) (M.2 135 17) (w + 1)) := by have e := hI9.mix hI_w hSu2 (vnz (M.1 136) n v w).toInt64; unfold hsC; rw [if_pos (by unfold cV; simp only [Bool.or_eq_true, decide_eq_true_eq]; omega)]; exact e
            exact ih_w (w + 1) _ (by omega) (by omega) hJ
  refine r_lv (lv2 := [(2, .int (nI 0)), (0, .ref (ad 135)), (1, .int (nI v))]) [0, 1, 2] rfl ?_
  exact Lw (14 + 1) 0 _ (by omega) (by omega) ⟨(SC.rf M).sd, rfl⟩
