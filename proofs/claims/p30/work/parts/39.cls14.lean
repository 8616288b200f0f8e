/-! ===== the class: properties, numbers, share, reasons (written by wip/whole/gen/cls14.py) ===== -/
theorem s1_p {v : Nat} (h : v < 8) : s1 v = nI (2 ^ v) := by
  have h2 : ∀ v : Fin 8, s1 v.val = nI (2 ^ v.val) := by decide +kernel
  exact h2 ⟨v, h⟩
theorem p2_lt {v n : Nat} (hv : v < n) : 2 ^ v < 2 ^ n := Nat.pow_lt_pow_right (by decide) hv
theorem pd_rh {M : Mm} {g gi : Nat} {z : Nat → Int32} {n d w : Nat} (h : gv M g gi z n d) (hw : w < n) : pdI (M.1 (gR g w)) (M.1 gi) = dotz z 50 (18 + 4 * w) := by
  rw [dotz_comm]; exact sI_cg (fun p hp => by rw [h.2.2.2.2.2 p hp, h.2.2.2.2.1 w p hw hp])
theorem lgcN_gt {a b : Nat} (ha : a < 2 ^ 63) (hb : b < 2 ^ 63) : (0 < lg_cmp (lN a) (lN b)) = (b < a) := by
  rw [← Int32.not_le, lgcN_le ha hb]; exact propext Nat.not_le
theorem cqV.k {M M2 : Mm} {z : Nat → Int32} {n : Nat} (h : cqV M z n) (h1 : M2.1 127 = M.1 127) (h2 : M2.1 128 = M.1 128) : cqV M2 z n := by
  unfold cqV; rw [h1, h2]; exact h
section CV5
variable {l : Launch} {D : va_G} {cs : Nat → ClassId} {ad : Nat → Nat} {nL : Nat} {κ : Kx} {u : Nat} {M : Mm} {pc : Nat} {lv : List (Nat × Value)} {st : List Value} {cc : ByteArray} {own : String} {fr lo U : Nat}
theorem r_dconst1 (C : CX D cs ad cc nL own fr lo U κ) (d : decode cc pc = .ok (.dconst 1, 1)) (k : VV l D cs ad nL κ u M (pc + 1) lv (.double FP.dconst1 :: st)) : VV l D cs ad nL κ u M pc lv st := by
  obtain ⟨p, e, R, s, m, args, below, meth, c, c0, s0, Q⟩ := κ
  obtain ⟨hx, hb, hml, hown, hts, hK, hD, hfr, hlo, hc0, hs0⟩ := C
  intro H locs ls hP hS hl
  exact lv_dconst1 hx hb d (k H locs ls hP hS hl)
end CV5
/-- the reasons that there is no bound, the class's way and the reference's -/
theorem rs_cases {z : Nat → Int32} {n : Nat} {mk : Nat → Nat} (hn : n ≤ 8) (hk : gk z n mk) : (¬ fuz z n = -1 ∧ ¬ rsz z n = nI 0) ∨ (fuz z n = -1 ∧ ¬ upR z n = -1 ∧ ¬ rsz z n = nI 0) ∨ (fuz z n = -1 ∧ upR z n = -1 ∧ rsz z n = nI 0) := by
  rcases mf_fu hn hk with ⟨h1, h2⟩ | ⟨a, b, ha, hb, h1, h2, h3⟩
  · right
    by_cases hu : upR z n = -1
    · exact Or.inr ⟨h1, hu, by unfold rsz; rw [if_pos h2, if_pos hu]⟩
    · exact Or.inl ⟨h1, hu, by unfold rsz; rw [if_pos h2, if_neg hu]; decide⟩
  · left
    refine ⟨by rw [h1]; exact m1_ne (by omega), ?_⟩
    unfold rsz; rw [if_neg (by rw [h3]; exact m1_ne (by omega))]; decide
/-- the bound as it is told -/
def tlP (M : Mm) (b : Nat) (z : Nat → Int32) (n : Nat) (wt U S : Nat → Nat) (H : Nat) : Prop := (rsz z n = nI 0 → bdV M b (bnA wt U S H n, bnB wt U S H n, (bnS wt U S H n).2.2)) ∧ (¬ rsz z n = nI 0 → bdN M b)
theorem rn_c1 {z : Nat → Int32} {n p : Nat} (h : mfR z n = -1) : rnz z n p = if p = 0 then (if upR z n = -1 then nI 0 else nI 2) else if p = 1 then upR z n else -1 := by
  unfold rnz rsz; rw [if_pos h, if_pos h]
theorem rn_c2 {z : Nat → Int32} {n p a b : Nat} (ha : a < 8) (hb : b < 8) (h : mfR z n = nI (8 * a + b)) : rnz z n p = if p = 0 then nI 1 else if p = 1 then nI a else nI b := by
  have h1 : ¬ mfR z n = -1 := by rw [h]; exact m1_ne (by omega)
  unfold rnz rsz
  rw [if_neg h1, if_neg h1, h, pk_div (by omega) (by decide) (by decide), show (8 * a + b) / 8 = a by omega, show nI (8 * a + b) - nI a * nI 8 = nI b from by rw [pk_mul, pk_sub (by omega), show 8 * a + b - a * 8 = b by omega]]
/-- the reason against a product, the class's way -/
def rzI (z y : Nat → Int32) (n n2 N dd : Nat) : Int32 := if 8 < N then nI 1 else if 4 < dd then nI 2 else if nI 9 < mx9 (fun v => z (2 + v)) n * mx9 (fun v => y (2 + v)) n2 then nI 3 else if nI 9 < mx9 (fun v => fur (fun p => z (18 + 4 * v + p))) n * mx9 (fun v => fur (fun p => y (18 + 4 * v + p))) n2 ∨ nI 9 < fur (fun p => z (50 + p)) * fur (fun p => y (50 + p)) then nI 4 else nI 0
set_option maxRecDepth 100000 in
set_option maxHeartbeats 4000000 in
theorem c_X7_propertyOf (l : Launch) (D : va_G) (cs : Nat → ClassId) (ad : Nat → Nat) (M : Mm) (z : Nat → Int32) (n d : Nat) (hg : gv M 0 (gH 0) z n d) (hn8 : n ≤ 8) (hm : gm z n) (mk wt9 : Nat → Nat) (hk : gk z n mk) (hw9 : gw z n wt9) (hsy : gs z n) (hcol : ∀ j, j < n → M.1 126 j = crs z n j) (hcq : cqV M z n) (v w : Nat) (hv : v < n) (hw : w ≤ 5 ∨ (10 ≤ w ∧ w ≤ 13)) : ∀ sz : Nat, Met l yX7_propertyOf (.code yX7_propertyOf cX7_propertyOf 3 (some .int) :: TT) { frames := 1, cells := 0, slots := 0, locals := 23 } (va_Pc [.ref (ad 117), .int (nI v), .int (nI w)] (fun U9 => U9.heap.size = sz ∧ wB D cs ad (fA ad sz) M U9)) (va_Qi (fun r M2 => r = vnz z n v w ∧ M2 = M) (wB D cs ad (fA ad sz)) (fA ad sz)) 0 0 (fA ad sz) := by
  refine st_I (by decide) (Nat.le_of_ble_eq_true rfl) (fun κ C E => ?_)
  refine r_lv (lv2 := [(0, .ref (ad 117)), (1, .int (nI v)), (2, .int (nI w))]) [0, 1, 2] rfl ?_
  refine r_iload_n C dX7_propertyOf_0 rfl 2 rfl ?_
  rcases (show w = 0 ∨ w = 1 ∨ w = 2 ∨ w = 3 ∨ w = 4 ∨ w = 5 ∨ 5 < w by omega) with rfl | rfl | rfl | rfl | rfl | rfl | hsw
  ·
    refine r_tableIn C 40 dX7_propertyOf_1 (by decide) (by decide) rfl (by decide) ?_
    refine r_aload_n C dX7_propertyOf_40 rfl 0 rfl ?_
    refine r_get C (Cn := RX7) (T := TX7) (N := 10) (id := 117) (by decide) inw_X7 rfl rfl 0 (by decide) rfl fl_X7_12 rfl dX7_propertyOf_41 ?_
    refine r_get C (Cn := RX4) (T := TX4) (N := 6) (id := (gO 0)) (by simp only [gO, gN, gW, gL, gR, gH] <;> omega) inw_X4 (wF_O cs ad (by decide) _ _) rfl 3 (by decide) rfl fl_X7_103 rfl dX7_propertyOf_44 ?_
    refine r_iload_n C dX7_propertyOf_47 rfl 1 rfl ?_
    refine r_iald C (id := (gW 0)) (n := 8) (a := v) (by simp only [gO, gN, gW, gL, gR, gH] <;> omega) (wF_W cs ad (by decide) _ _) (by omega) (by decide) dX7_propertyOf_48 ?_
    refine r_topi (w := (z (2 + v))) (hg.2.2.2.1 v (by omega)) ?_
    exact E 0 _ _ _ _ (Nat.le_of_ble_eq_true rfl) dX7_propertyOf_49 (⟨rfl, rfl⟩)
  ·
    refine r_tableIn C 50 dX7_propertyOf_1 (by decide) (by decide) rfl (by decide) ?_
    refine r_aload_n C dX7_propertyOf_50 rfl 0 rfl ?_
    refine r_get C (Cn := RX7) (T := TX7) (N := 10) (id := 117) (by decide) inw_X7 rfl rfl 0 (by decide) rfl fl_X7_12 rfl dX7_propertyOf_51 ?_
    refine r_get C (Cn := RX4) (T := TX4) (N := 6) (id := (gO 0)) (by simp only [gO, gN, gW, gL, gR, gH] <;> omega) inw_X4 (wF_O cs ad (by decide) _ _) rfl 2 (by decide) rfl fl_X7_306 rfl dX7_propertyOf_54 ?_
    refine r_iload_n C dX7_propertyOf_57 rfl 1 rfl ?_
    refine r_iald C (id := (gN 0)) (n := 8) (a := v) (by simp only [gO, gN, gW, gL, gR, gH] <;> omega) (wF_N cs ad (by decide) _ _) (by omega) (by decide) dX7_propertyOf_58 ?_
    refine r_topi (w := (z (10 + v))) (hg.2.2.1 v (by omega)) ?_
    refine r_pcallS2_i (nA := 1) C (Nat.le_of_ble_eq_true rfl) [.int (z (10 + v))] (c_bitCount l D cs ad M (z (10 + v)) ) (tt_S2 ml_X7_309 st_J6_bitCount_0f7a4 in_J6 co_J6_bitCount_0f7a4) ⟨rfl, rfl⟩ ⟨by decide, by decide, by decide⟩ ⟨Nat.le_of_ble_eq_true rfl, Nat.le_of_ble_eq_true rfl⟩ rfl rfl (Nat.le_of_ble_eq_true rfl) dX7_propertyOf_59 ?_
    refine r_topi (w := (on8 (z (10 + v)))) (bc_z hm (by omega)) ?_
    exact E 0 _ _ _ _ (Nat.le_of_ble_eq_true rfl) dX7_propertyOf_62 (⟨rfl, rfl⟩)
  ·
    refine r_tableIn C 63 dX7_propertyOf_1 (by decide) (by decide) rfl (by decide) ?_
    refine r_aload_n C dX7_propertyOf_63 rfl 0 rfl ?_
    refine r_get C (Cn := RX7) (T := TX7) (N := 10) (id := 117) (by decide) inw_X7 rfl rfl 0 (by decide) rfl fl_X7_12 rfl dX7_propertyOf_64 ?_
    refine r_get C (Cn := RX4) (T := TX4) (N := 6) (id := (gO 0)) (by simp only [gO, gN, gW, gL, gR, gH] <;> omega) inw_X4 (wF_O cs ad (by decide) _ _) rfl 4 (by decide) rfl fl_X7_141 rfl dX7_propertyOf_67 ?_
    refine r_iload_n C dX7_propertyOf_70 rfl 1 rfl ?_
    refine r_aald C (id := (gL 0)) (n := 8) (a := v) (id2 := (gR 0 v)) (t0 := 4) (by simp only [gO, gN, gW, gL, gR, gH] <;> omega) (wF_L cs ad (by decide) _ _) rfl rfl (by omega) (by decide) (if_pos (by omega)) dX7_propertyOf_71 ?_
    refine r_aload_n C dX7_propertyOf_72 rfl 0 rfl ?_
    refine r_get C (Cn := RX7) (T := TX7) (N := 10) (id := 117) (by decide) inw_X7 rfl rfl 0 (by decide) rfl fl_X7_12 rfl dX7_propertyOf_73 ?_
    refine r_get C (Cn := RX4) (T := TX4) (N := 6) (id := (gO 0)) (by simp only [gO, gN, gW, gL, gR, gH] <;> omega) inw_X4 (wF_O cs ad (by decide) _ _) rfl 4 (by decide) rfl fl_X7_141 rfl dX7_propertyOf_76 ?_
    refine r_iload_n C dX7_propertyOf_79 rfl 1 rfl ?_
    refine r_aald C (id := (gL 0)) (n := 8) (a := v) (id2 := (gR 0 v)) (t0 := 4) (by simp only [gO, gN, gW, gL, gR, gH] <;> omega) (wF_L cs ad (by decide) _ _) rfl rfl (by omega) (by decide) (if_pos (by omega)) dX7_propertyOf_80 ?_
    refine r_pcallS_i (nA := 2) C (Nat.le_of_ble_eq_true rfl) [.ref (ad (gR 0 v)), .ref (ad (gR 0 v))] (c_X7_product l D cs ad M (gR 0 v) (gR 0 v) (by simp only [gO, gN, gW, gL, gR, gH] <;> omega) (fun _ _ => (wF_R cs ad (by decide) (by omega) _ _)) (by simp only [gO, gN, gW, gL, gR, gH] <;> omega) (fun _ _ => (wF_R cs ad (by decide) (by omega) _ _))) (tt_S ml_X7_314 st_X7_product in_X7 co_X7_product) ⟨rfl, rfl⟩ ⟨rfl, by decide, by decide, by decide⟩ ⟨Nat.le_of_ble_eq_true rfl, Nat.le_of_ble_eq_true rfl⟩ rfl rfl (Nat.le_of_ble_eq_true rfl) dX7_propertyOf_81 ?_
    refine r_topi (w := (dotz z (18 + 4 * v) (18 + 4 * v))) (pd_rr hg (by omega) (by omega)) ?_
    exact E 0 _ _ _ _ (Nat.le_of_ble_eq_true rfl) dX7_propertyOf_84 (⟨rfl, rfl⟩)
  ·
    refine r_tableIn C 85 dX7_propertyOf_1 (by decide) (by decide) rfl (by decide) ?_
    refine r_aload_n C dX7_propertyOf_85 rfl 0 rfl ?_
    refine r_get C (Cn := RX7) (T := TX7) (N := 10) (id := 117) (by decide) inw_X7 rfl rfl 0 (by decide) rfl fl_X7_12 rfl dX7_propertyOf_86 ?_
    refine r_get C (Cn := RX4) (T := TX4) (N := 6) (id := (gO 0)) (by simp only [gO, gN, gW, gL, gR, gH] <;> omega) inw_X4 (wF_O cs ad (by decide) _ _) rfl 4 (by decide) rfl fl_X7_141 rfl dX7_propertyOf_89 ?_
    refine r_iload_n C dX7_propertyOf_92 rfl 1 rfl ?_
    refine r_aald C (id := (gL 0)) (n := 8) (a := v) (id2 := (gR 0 v)) (t0 := 4) (by simp only [gO, gN, gW, gL, gR, gH] <;> omega) (wF_L cs ad (by decide) _ _) rfl rfl (by omega) (by decide) (if_pos (by omega)) dX7_propertyOf_93 ?_
    refine r_aload_n C dX7_propertyOf_94 rfl 0 rfl ?_
    refine r_get C (Cn := RX7) (T := TX7) (N := 10) (id := 117) (by decide) inw_X7 rfl rfl 0 (by decide) rfl fl_X7_12 rfl dX7_propertyOf_95 ?_
    refine r_get C (Cn := RX4) (T := TX4) (N := 6) (id := (gO 0)) (by simp only [gO, gN, gW, gL, gR, gH] <;> omega) inw_X4 (wF_O cs ad (by decide) _ _) rfl 5 (by decide) rfl fl_X7_145 rfl dX7_propertyOf_98 ?_
    refine r_pcallS_i (nA := 2) C (Nat.le_of_ble_eq_true rfl) [.ref (ad (gR 0 v)), .ref (ad (gH 0))] (c_X7_product l D cs ad M (gR 0 v) (gH 0) (by simp only [gO, gN, gW, gL, gR, gH] <;> omega) (fun _ _ => (wF_R cs ad (by decide) (by omega) _ _)) (by simp only [gO, gN, gW, gL, gR, gH] <;> omega) (fun _ _ => (wF_H cs ad (by decide) _ _))) (tt_S ml_X7_314 st_X7_product in_X7 co_X7_product) ⟨rfl, rfl⟩ ⟨rfl, by decide, by decide, by decide⟩ ⟨Nat.le_of_ble_eq_true rfl, Nat.le_of_ble_eq_true rfl⟩ rfl rfl (Nat.le_of_ble_eq_true rfl) dX7_propertyOf_101 ?_
    refine r_topi (w := (dotz z 50 (18 + 4 * v))) (pd_rh hg (by omega)) ?_
    exact E 0 _ _ _ _ (Nat.le_of_ble_eq_true rfl) dX7_propertyOf_104 (⟨rfl, rfl⟩)
  ·
    refine r_tableIn C 105 dX7_propertyOf_1 (by decide) (by decide) rfl (by decide) ?_
    refine r_aload_n C dX7_propertyOf_105 rfl 0 rfl ?_
    refine r_get C (Cn := RX7) (T := TX7) (N := 10) (id := 117) (by decide) inw_X7 rfl rfl 5 (by decide) rfl fl_X7_41 rfl dX7_propertyOf_106 ?_
    refine r_get C (Cn := RX2) (T := TX2) (N := 2) (id := 125) (by decide) inw_X2 rfl rfl 0 (by decide) rfl fl_X7_318 rfl dX7_propertyOf_109 ?_
    refine r_iload_n C dX7_propertyOf_112 rfl 1 rfl ?_
    refine r_iald C (id := 126) (n := 8) (a := v) (by decide) rfl (by omega) (by decide) dX7_propertyOf_113 ?_
    refine r_topi (w := (crs z n v)) (hcol v (by omega)) ?_
    exact E 0 _ _ _ _ (Nat.le_of_ble_eq_true rfl) dX7_propertyOf_114 (⟨rfl, rfl⟩)
  ·
    refine r_tableIn C 115 dX7_propertyOf_1 (by decide) (by decide) rfl (by decide) ?_
    refine r_aload_n C dX7_propertyOf_115 rfl 0 rfl ?_
    refine r_get C (Cn := RX7) (T := TX7) (N := 10) (id := 117) (by decide) inw_X7 rfl rfl 6 (by decide) rfl fl_X7_48 rfl dX7_propertyOf_116 ?_
    refine r_aload_n C dX7_propertyOf_119 rfl 0 rfl ?_
    refine r_get C (Cn := RX7) (T := TX7) (N := 10) (id := 117) (by decide) inw_X7 rfl rfl 6 (by decide) rfl fl_X7_48 rfl dX7_propertyOf_120 ?_
    refine r_iconst C (nI 1) dX7_propertyOf_123 (by decide) ?_
    refine r_iload_n C dX7_propertyOf_124 rfl 1 rfl ?_
    refine r_ishl C dX7_propertyOf_125 ?_
    refine r_topi (w := s1 v) rfl ?_
    refine r_topi (w := nI (2 ^ v)) (s1_p (by omega)) ?_
    refine r_pcallV_i (nA := 1) C (Nat.le_of_ble_eq_true rfl) [.int (nI (2 ^ v))] (c_X1_heaviestWith l D cs ad M  z n hn8 hcq (2 ^ v) (p2_lt hv)) (tt_V ml_X7_321 im_X1_heaviestWith se_X1_heaviestWith in_X1 co_X1_heaviestWith) ⟨rfl, rfl⟩ ⟨rfl, by decide, by decide, by decide⟩ ⟨Nat.le_of_ble_eq_true rfl, Nat.le_of_ble_eq_true rfl⟩ (by decide) rfl rfl rfl rfl rfl (Nat.le_of_ble_eq_true rfl) dX7_propertyOf_126 ?_
    refine r_pcallV_i (nA := 1) C (Nat.le_of_ble_eq_true rfl) [.int (nI (hcS z n (2 ^ v) (2 ^ n)))] (c_X1_weightOf l D cs ad M  z n hn8 hcq (hcS z n (2 ^ v) (2 ^ n)) (hcS_lt (p2_lt hv) (Nat.le_refl _))) (tt_V ml_X7_324 im_X1_weightOf se_X1_weightOf in_X1 co_X1_weightOf) ⟨rfl, rfl⟩ ⟨rfl, by decide, by decide, by decide⟩ ⟨Nat.le_of_ble_eq_true rfl, Nat.le_of_ble_eq_true rfl⟩ (by decide) rfl rfl rfl rfl rfl (Nat.le_of_ble_eq_true rfl) dX7_propertyOf_129 ?_
    exact E 0 _ _ _ _ (Nat.le_of_ble_eq_true rfl) dX7_propertyOf_132 (⟨by rw [show vnz z n v 5 = wz z n (hvz z n (s1 v)) from rfl, s1_p (by omega)]; exact (hc_z hn8 hk hw9 hsy (p2_lt hv) (icl_1 hn8 hk hv)).2, rfl⟩)
  ·
    refine r_tableOut C 133 dX7_propertyOf_1 (Or.inr (by rw [nI_toInt (by omega)]; omega)) (by decide) ?_
    refine r_aload_n C dX7_propertyOf_133 rfl 0 rfl ?_
    refine r_get C (Cn := RX7) (T := TX7) (N := 10) (id := 117) (by decide) inw_X7 rfl rfl 0 (by decide) rfl fl_X7_12 rfl dX7_propertyOf_134 ?_
    refine r_get C (Cn := RX4) (T := TX4) (N := 6) (id := (gO 0)) (by simp only [gO, gN, gW, gL, gR, gH] <;> omega) inw_X4 (wF_O cs ad (by decide) _ _) rfl 4 (by decide) rfl fl_X7_141 rfl dX7_propertyOf_137 ?_
    refine r_iload_n C dX7_propertyOf_140 rfl 1 rfl ?_
    refine r_aald C (id := (gL 0)) (n := 8) (a := v) (id2 := (gR 0 v)) (t0 := 4) (by simp only [gO, gN, gW, gL, gR, gH] <;> omega) (wF_L cs ad (by decide) _ _) rfl rfl (by omega) (by decide) (if_pos (by omega)) dX7_propertyOf_141 ?_
    refine r_iload_n C dX7_propertyOf_142 rfl 2 rfl ?_
    refine r_bipush C (nI 10) dX7_propertyOf_143 (by decide) ?_
    refine r_isub C dX7_propertyOf_145 ?_
    refine r_topi (pk_sub (a := w) (b := 10) (by omega)) ?_
    refine r_iald C (id := (gR 0 v)) (n := 4) (a := w - 10) (by simp only [gO, gN, gW, gL, gR, gH] <;> omega) (wF_R cs ad (by decide) (by omega) _ _) (by omega) (by decide) dX7_propertyOf_146 ?_
    refine r_topi (w := (z (18 + 4 * v + (w - 10)))) (hg.2.2.2.2.1 v (w - 10) (by omega) (by omega)) ?_
    exact E 0 _ _ _ _ (Nat.le_of_ble_eq_true rfl) dX7_propertyOf_147 (⟨by unfold vnz; rw [if_neg (by omega), if_neg (by omega), if_neg (by omega), if_neg (by omega), if_neg (by omega), if_neg (by omega), show 18 + 4 * v + w - 10 = 18 + 4 * v + (w - 10) by omega], rfl⟩)
set_option maxRecDepth 100000 in
set_option maxHeartbeats 4000000 in
theorem c_X7_takenSnapshots (l : Launch) (D : va_G) (cs : Nat → ClassId) (ad : Nat → Nat) (M : Mm) (htk : ∀ k, k < 2 → M.1 119 k = nI 0 ∨ M.1 119 k = nI 1) : ∀ sz : Nat, Met l yX7_takenSnapshots (.code yX7_takenSnapshots cX7_takenSnapshots 3 (some .int) :: TT) { frames := 0, cells := 0, slots := 0, locals := 0 } (va_Pc [.ref (ad 117)] (fun U9 => U9.heap.size = sz ∧ wB D cs ad (fA ad sz) M U9)) (va_Qi (fun r M2 => r = sI (M.1 119) 2 ∧ M2 = M) (wB D cs ad (fA ad sz)) (fA ad sz)) 0 0 (fA ad sz) := by
  refine st_I (by decide) (Nat.le_of_ble_eq_true rfl) (fun κ C E => ?_)
  refine r_lv (lv2 := [(0, .ref (ad 117))]) [0] rfl ?_
  refine r_iconst C (nI 0) dX7_takenSnapshots_0 (by decide) ?_
  refine r_istore_n C [(1, .int (nI 0)), (0, .ref (ad 117))] dX7_takenSnapshots_1 rfl (by decide) rfl ?_
  refine r_iconst C (nI 0) dX7_takenSnapshots_2 (by decide) ?_
  refine r_istore_n C [(2, .int (nI 0)), (1, .int (nI 0)), (0, .ref (ad 117))] dX7_takenSnapshots_3 rfl (by decide) rfl ?_
  have Lp : ∀ (f k : Nat), 2 + 1 ≤ k + f → k ≤ 2 → VV l D cs ad 3 κ 0 M 4 [(2, .int (nI k)), (1, .int (sI (M.1 119) k)), (0, .ref (ad 117))] [] := by
    intro f
    induction f with
    | zero => intro k hk1 hk2; exact absurd hk1 (by omega)
    | succ f ih =>
      intro k hk1 hk2
      refine r_iload_n C dX7_takenSnapshots_4 rfl 0 rfl ?_
      refine r_iconst C (nI 2) dX7_takenSnapshots_5 (by decide) ?_
      refine r_icmpN_ge C 32 dX7_takenSnapshots_6 (by decide) (by omega) (by omega) (fun h6 => ?_) (fun h6 => ?_)
      ·
        have hk9 : 2 = k := by omega
        subst hk9
        refine r_iload_n C dX7_takenSnapshots_32 rfl 1 rfl ?_
        exact E 0 _ _ _ _ (Nat.le_of_ble_eq_true rfl) dX7_takenSnapshots_33 (⟨rfl, rfl⟩)
      ·
        refine r_iload_n C dX7_takenSnapshots_9 rfl 1 rfl ?_
        refine r_aload_n C dX7_takenSnapshots_10 rfl 2 rfl ?_
        refine r_get C (Cn := RX7) (T := TX7) (N := 10) (id := 117) (by decide) inw_X7 rfl rfl 2 (by decide) rfl fl_X7_20 rfl dX7_takenSnapshots_11 ?_
        refine r_iload_n C dX7_takenSnapshots_14 rfl 0 rfl ?_
        refine r_zald C (id := 119) (n := 2) (a := k) (by decide) rfl (by omega) (by decide) dX7_takenSnapshots_15 ?_
        refine r_if_eq C 23 dX7_takenSnapshots_16 (by decide) (fun h16 => ?_) (fun h16 => ?_)
        ·
          refine r_iconst C (nI 0) dX7_takenSnapshots_23 (by decide) ?_
          refine r_topi (w := M.1 119 k) (h16.symm) ?_
          refine r_iadd C dX7_takenSnapshots_24 ?_
          refine r_istore_n C [(1, .int ((sI (M.1 119) k) + (M.1 119 k))), (2, .int (nI k)), (0, .ref (ad 117))] dX7_takenSnapshots_25 rfl (by decide) rfl ?_
          refine r_iinc C (nI (k + 1)) [(2, .int (nI (k + 1))), (1, .int ((sI (M.1 119) k) + (M.1 119 k))), (0, .ref (ad 117))] dX7_takenSnapshots_26 (j := 1) rfl (inc_n k 1) (by decide) rfl ?_
          refine r_goto C 4 dX7_takenSnapshots_29 (by decide) ?_
          refine r_lv (lv2 := [(2, .int (nI (k + 1))), (1, .int (sI (M.1 119) (k + 1))), (0, .ref (ad 117))]) [0, 1, 2] rfl ?_
          exact ih (k + 1) (by omega) (by omega)
        ·
          refine r_iconst C (nI 1) dX7_takenSnapshots_19 (by decide) ?_
          refine r_goto C 24 dX7_takenSnapshots_20 (by decide) ?_
          refine r_topi (w := M.1 119 k) (((htk k (by omega)).resolve_left (fun q => h16 q)).symm) ?_
          refine r_iadd C dX7_takenSnapshots_24 ?_
          refine r_istore_n C [(1, .int ((sI (M.1 119) k) + (M.1 119 k))), (2, .int (nI k)), (0, .ref (ad 117))] dX7_takenSnapshots_25 rfl (by decide) rfl ?_
          refine r_iinc C (nI (k + 1)) [(2, .int (nI (k + 1))), (1, .int ((sI (M.1 119) k) + (M.1 119 k))), (0, .ref (ad 117))] dX7_takenSnapshots_26 (j := 1) rfl (inc_n k 1) (by decide) rfl ?_
          refine r_goto C 4 dX7_takenSnapshots_29 (by decide) ?_
          refine r_lv (lv2 := [(2, .int (nI (k + 1))), (1, .int (sI (M.1 119) (k + 1))), (0, .ref (ad 117))]) [0, 1, 2] rfl ?_
          exact ih (k + 1) (by omega) (by omega)
  refine r_lv (lv2 := [(2, .int (nI 0)), (1, .int (sI (M.1 119) 0)), (0, .ref (ad 117))]) [0, 1, 2] rfl ?_
  exact Lp (2 + 1) 0 (by omega) (by omega)
set_option maxRecDepth 100000 in
set_option maxHeartbeats 4000000 in
theorem c_X7_numberOf (l : Launch) (D : va_G) (cs : Nat → ClassId) (ad : Nat → Nat) (M : Mm) (z : Nat → Int32) (n d : Nat) (hg : gv M 0 (gH 0) z n d) (hn8 : n ≤ 8) (hm : gm z n) (mk wt9 : Nat → Nat) (hk : gk z n mk) (hw9 : gw z n wt9) (hsy : gs z n) (hcol : ∀ j, j < n → M.1 126 j = crs z n j) (hcq : cqV M z n) (hcn : M.1 125 1 = nI (cnK z n)) (hpm : M.1 117 9 = z 54) (htk : ∀ k, k < 2 → M.1 119 k = nI 0 ∨ M.1 119 k = nI 1) (k : Nat) (hk9 : k ≤ 11) : ∀ sz : Nat, Met l yX7_numberOf (.code yX7_numberOf cX7_numberOf 2 (some .int) :: TT) { frames := 3, cells := 0, slots := 0, locals := 68 } (va_Pc [.ref (ad 117), .int (nI k)] (fun U9 => U9.heap.size = sz ∧ wB D cs ad (fA ad sz) M U9 ∧ xX (fA ad sz) U9 U9.heap)) (va_Qi (fun r M2 => r = ctz z (M.1 119) (M.1 120 3) n d k ∧ M2 = M) (wB D cs ad (fA ad sz)) (fA ad sz)) 0 0 (fA ad sz) := by
  refine sn_I (by decide) (Nat.le_of_ble_eq_true rfl) (fun κ C hN E => ?_)
  refine r_lv (lv2 := [(0, .ref (ad 117)), (1, .int (nI k))]) [0, 1] rfl ?_
  refine r_iload_n C dX7_numberOf_0 rfl 1 rfl ?_
  rcases (show k = 0 ∨ k = 1 ∨ k = 2 ∨ k = 3 ∨ k = 4 ∨ k = 5 ∨ k = 6 ∨ k = 7 ∨ k = 8 ∨ k = 9 ∨ k = 10 ∨ 10 < k by omega) with rfl | rfl | rfl | rfl | rfl | rfl | rfl | rfl | rfl | rfl | rfl | hsw
  ·
    refine r_tableIn C 60 dX7_numberOf_1 (by decide) (by decide) rfl (by decide) ?_
    refine r_aload_n C dX7_numberOf_60 rfl 0 rfl ?_
    refine r_get C (Cn := RX7) (T := TX7) (N := 10) (id := 117) (by decide) inw_X7 rfl rfl 0 (by decide) rfl fl_X7_12 rfl dX7_numberOf_61 ?_
    refine r_get C (Cn := RX4) (T := TX4) (N := 6) (id := (gO 0)) (by simp only [gO, gN, gW, gL, gR, gH] <;> omega) inw_X4 (wF_O cs ad (by decide) _ _) rfl 0 (by decide) rfl fl_X7_77 rfl dX7_numberOf_64 ?_
    refine r_topi (w := nI n) hg.1 ?_
    exact E 0 _ _ _ _ (Nat.le_of_ble_eq_true rfl) dX7_numberOf_67 (⟨rfl, rfl⟩)
  ·
    refine r_tableIn C 68 dX7_numberOf_1 (by decide) (by decide) rfl (by decide) ?_
    refine r_aload_n C dX7_numberOf_68 rfl 0 rfl ?_
    refine r_get C (Cn := RX7) (T := TX7) (N := 10) (id := 117) (by decide) inw_X7 rfl rfl 0 (by decide) rfl fl_X7_12 rfl dX7_numberOf_69 ?_
    refine r_get C (Cn := RX4) (T := TX4) (N := 6) (id := (gO 0)) (by simp only [gO, gN, gW, gL, gR, gH] <;> omega) inw_X4 (wF_O cs ad (by decide) _ _) rfl 1 (by decide) rfl fl_X7_155 rfl dX7_numberOf_72 ?_
    refine r_topi (w := nI d) hg.2.1 ?_
    exact E 0 _ _ _ _ (Nat.le_of_ble_eq_true rfl) dX7_numberOf_75 (⟨rfl, rfl⟩)
  ·
    refine r_tableIn C 76 dX7_numberOf_1 (by decide) (by decide) rfl (by decide) ?_
    refine r_aload_n C dX7_numberOf_76 rfl 0 rfl ?_
    refine r_get C (Cn := RX7) (T := TX7) (N := 10) (id := 117) (by decide) inw_X7 rfl rfl 0 (by decide) rfl fl_X7_12 rfl dX7_numberOf_77 ?_
    refine r_pcallV_i (nA := 0) C (Nat.le_of_ble_eq_true rfl) [] (c_X4_edges l D cs ad M 0  (by decide) (gH 0) z n d hg hn8 hm) (tt_V ml_X7_97 im_X4_edges se_X4_edges in_X4 co_X4_edges) ⟨rfl, rfl⟩ ⟨rfl, by decide, by decide, by decide⟩ ⟨Nat.le_of_ble_eq_true rfl, Nat.le_of_ble_eq_true rfl⟩ (by simp only [gO, gN, gW, gL, gR, gH] <;> omega) (wF_O cs ad (by decide) _ _) rfl rfl rfl rfl (Nat.le_of_ble_eq_true rfl) dX7_numberOf_80 ?_
    exact E 0 _ _ _ _ (Nat.le_of_ble_eq_true rfl) dX7_numberOf_83 (⟨rfl, rfl⟩)
  ·
    refine r_tableIn C 84 dX7_numberOf_1 (by decide) (by decide) rfl (by decide) ?_
    refine r_aload_n C dX7_numberOf_84 rfl 0 rfl ?_
    refine r_get C (Cn := RX7) (T := TX7) (N := 10) (id := 117) (by decide) inw_X7 rfl rfl 6 (by decide) rfl fl_X7_48 rfl dX7_numberOf_85 ?_
    refine r_aload_n C dX7_numberOf_88 rfl 0 rfl ?_
    refine r_get C (Cn := RX7) (T := TX7) (N := 10) (id := 117) (by decide) inw_X7 rfl rfl 6 (by decide) rfl fl_X7_48 rfl dX7_numberOf_89 ?_
    refine r_iconst C (nI 0) dX7_numberOf_92 (by decide) ?_
    refine r_pcallV_i (nA := 1) C (Nat.le_of_ble_eq_true rfl) [.int (nI 0)] (c_X1_heaviestWith l D cs ad M  z n hn8 hcq 0 (Nat.two_pow_pos n)) (tt_V ml_X7_321 im_X1_heaviestWith se_X1_heaviestWith in_X1 co_X1_heaviestWith) ⟨rfl, rfl⟩ ⟨rfl, by decide, by decide, by decide⟩ ⟨Nat.le_of_ble_eq_true rfl, Nat.le_of_ble_eq_true rfl⟩ (by decide) rfl rfl rfl rfl rfl (Nat.le_of_ble_eq_true rfl) dX7_numberOf_93 ?_
    refine r_pcallV_i (nA := 1) C (Nat.le_of_ble_eq_true rfl) [.int (nI (hcS z n 0 (2 ^ n)))] (c_X1_weightOf l D cs ad M  z n hn8 hcq (hcS z n 0 (2 ^ n)) (hcS_lt (Nat.two_pow_pos n) (Nat.le_refl _))) (tt_V ml_X7_324 im_X1_weightOf se_X1_weightOf in_X1 co_X1_weightOf) ⟨rfl, rfl⟩ ⟨rfl, by decide, by decide, by decide⟩ ⟨Nat.le_of_ble_eq_true rfl, Nat.le_of_ble_eq_true rfl⟩ (by decide) rfl rfl rfl rfl rfl (Nat.le_of_ble_eq_true rfl) dX7_numberOf_96 ?_
    exact E 0 _ _ _ _ (Nat.le_of_ble_eq_true rfl) dX7_numberOf_99 (⟨(hc_z hn8 hk hw9 hsy (Nat.two_pow_pos n) (icl_0 hn8 hk)).2, rfl⟩)
  ·
    refine r_tableIn C 100 dX7_numberOf_1 (by decide) (by decide) rfl (by decide) ?_
    refine r_aload_n C dX7_numberOf_100 rfl 0 rfl ?_
    refine r_get C (Cn := RX7) (T := TX7) (N := 10) (id := 117) (by decide) inw_X7 rfl rfl 6 (by decide) rfl fl_X7_48 rfl dX7_numberOf_101 ?_
    refine r_iconst C (nI 0) dX7_numberOf_104 (by decide) ?_
    refine r_pcallV_i (nA := 1) C (Nat.le_of_ble_eq_true rfl) [.int (nI 0)] (c_X1_heaviestWith l D cs ad M  z n hn8 hcq 0 (Nat.two_pow_pos n)) (tt_V ml_X7_321 im_X1_heaviestWith se_X1_heaviestWith in_X1 co_X1_heaviestWith) ⟨rfl, rfl⟩ ⟨rfl, by decide, by decide, by decide⟩ ⟨Nat.le_of_ble_eq_true rfl, Nat.le_of_ble_eq_true rfl⟩ (by decide) rfl rfl rfl rfl rfl (Nat.le_of_ble_eq_true rfl) dX7_numberOf_105 ?_
    exact E 0 _ _ _ _ (Nat.le_of_ble_eq_true rfl) dX7_numberOf_108 (⟨(hc_z hn8 hk hw9 hsy (Nat.two_pow_pos n) (icl_0 hn8 hk)).1, rfl⟩)
  ·
    refine r_tableIn C 109 dX7_numberOf_1 (by decide) (by decide) rfl (by decide) ?_
    refine r_aload_n C dX7_numberOf_109 rfl 0 rfl ?_
    refine r_get C (Cn := RX7) (T := TX7) (N := 10) (id := 117) (by decide) inw_X7 rfl rfl 6 (by decide) rfl fl_X7_48 rfl dX7_numberOf_110 ?_
    refine r_pcallV_i (nA := 0) C (Nat.le_of_ble_eq_true rfl) [] (c_X1_mostVertices l D cs ad M  z n hn8 hcq) (tt_V ml_X7_327 im_X1_mostVertices se_X1_mostVertices in_X1 co_X1_mostVertices) ⟨rfl, rfl⟩ ⟨rfl, by decide, by decide, by decide⟩ ⟨Nat.le_of_ble_eq_true rfl, Nat.le_of_ble_eq_true rfl⟩ (by decide) rfl rfl rfl rfl rfl (Nat.le_of_ble_eq_true rfl) dX7_numberOf_113 ?_
    exact E 0 _ _ _ _ (Nat.le_of_ble_eq_true rfl) dX7_numberOf_116 (⟨mc_z hn8 hk hw9 hsy (Nat.le_refl _), rfl⟩)
  ·
    refine r_tableIn C 117 dX7_numberOf_1 (by decide) (by decide) rfl (by decide) ?_
    refine r_aload_n C dX7_numberOf_117 rfl 0 rfl ?_
    refine r_get C (Cn := RX7) (T := TX7) (N := 10) (id := 117) (by decide) inw_X7 rfl rfl 5 (by decide) rfl fl_X7_41 rfl dX7_numberOf_118 ?_
    refine r_get C (Cn := RX2) (T := TX2) (N := 2) (id := 125) (by decide) inw_X2 rfl rfl 1 (by decide) rfl fl_X7_152 rfl dX7_numberOf_121 ?_
    refine r_topi (w := nI (cnK z n)) hcn ?_
    exact E 0 _ _ _ _ (Nat.le_of_ble_eq_true rfl) dX7_numberOf_124 (⟨rfl, rfl⟩)
  ·
    refine r_tableIn C 125 dX7_numberOf_1 (by decide) (by decide) rfl (by decide) ?_
    refine r_aload_n C dX7_numberOf_125 rfl 0 rfl ?_
    refine r_get C (Cn := RX7) (T := TX7) (N := 10) (id := 117) (by decide) inw_X7 rfl rfl 0 (by decide) rfl fl_X7_12 rfl dX7_numberOf_126 ?_
    refine r_npcallV_i (nA := 0) C hN (Nat.le_of_ble_eq_true rfl) [] (c_X4_unfitPairs l D cs ad M 0  (by decide) (gH 0) z n d hg hn8 hm) (tt_V ml_X7_330 im_X4_unfitPairs se_X4_unfitPairs in_X4 co_X4_unfitPairs) ⟨rfl, rfl⟩ ⟨rfl, by decide, by decide, by decide⟩ ⟨Nat.le_of_ble_eq_true rfl, Nat.le_of_ble_eq_true rfl⟩ (by simp only [gO, gN, gW, gL, gR, gH] <;> omega) (wF_O cs ad (by decide) _ _) rfl rfl rfl rfl (Nat.le_of_ble_eq_true rfl) dX7_numberOf_129 ?_
    exact E 0 _ _ _ _ (Nat.le_of_ble_eq_true rfl) dX7_numberOf_132 (⟨ufc_z hn8 hk, rfl⟩)
  ·
    refine r_tableIn C 133 dX7_numberOf_1 (by decide) (by decide) rfl (by decide) ?_
    refine r_aload_n C dX7_numberOf_133 rfl 0 rfl ?_
    refine r_get C (Cn := RX7) (T := TX7) (N := 10) (id := 117) (by decide) inw_X7 rfl rfl 0 (by decide) rfl fl_X7_12 rfl dX7_numberOf_134 ?_
    refine r_get C (Cn := RX4) (T := TX4) (N := 6) (id := (gO 0)) (by simp only [gO, gN, gW, gL, gR, gH] <;> omega) inw_X4 (wF_O cs ad (by decide) _ _) rfl 5 (by decide) rfl fl_X7_145 rfl dX7_numberOf_137 ?_
    refine r_aload_n C dX7_numberOf_140 rfl 0 rfl ?_
    refine r_get C (Cn := RX7) (T := TX7) (N := 10) (id := 117) (by decide) inw_X7 rfl rfl 0 (by decide) rfl fl_X7_12 rfl dX7_numberOf_141 ?_
    refine r_get C (Cn := RX4) (T := TX4) (N := 6) (id := (gO 0)) (by simp only [gO, gN, gW, gL, gR, gH] <;> omega) inw_X4 (wF_O cs ad (by decide) _ _) rfl 5 (by decide) rfl fl_X7_145 rfl dX7_numberOf_144 ?_
    refine r_pcallS_i (nA := 2) C (Nat.le_of_ble_eq_true rfl) [.ref (ad (gH 0)), .ref (ad (gH 0))] (c_X7_product l D cs ad M (gH 0) (gH 0) (by simp only [gO, gN, gW, gL, gR, gH] <;> omega) (fun _ _ => (wF_H cs ad (by decide) _ _)) (by simp only [gO, gN, gW, gL, gR, gH] <;> omega) (fun _ _ => (wF_H cs ad (by decide) _ _))) (tt_S ml_X7_314 st_X7_product in_X7 co_X7_product) ⟨rfl, rfl⟩ ⟨rfl, by decide, by decide, by decide⟩ ⟨Nat.le_of_ble_eq_true rfl, Nat.le_of_ble_eq_true rfl⟩ rfl rfl (Nat.le_of_ble_eq_true rfl) dX7_numberOf_147 ?_
    refine r_topi (w := (dotz z 50 50)) (pd_hh hg) ?_
    exact E 0 _ _ _ _ (Nat.le_of_ble_eq_true rfl) dX7_numberOf_150 (⟨rfl, rfl⟩)
  ·
    refine r_tableIn C 151 dX7_numberOf_1 (by decide) (by decide) rfl (by decide) ?_
    refine r_aload_n C dX7_numberOf_151 rfl 0 rfl ?_
    refine r_get C (Cn := RX7) (T := TX7) (N := 10) (id := 117) (by decide) inw_X7 rfl rfl 9 (by decide) rfl fl_X7_66 rfl dX7_numberOf_152 ?_
    refine r_topi (w := (z 54)) hpm ?_
    exact E 0 _ _ _ _ (Nat.le_of_ble_eq_true rfl) dX7_numberOf_155 (⟨rfl, rfl⟩)
  ·
    refine r_tableIn C 156 dX7_numberOf_1 (by decide) (by decide) rfl (by decide) ?_
    refine r_aload_n C dX7_numberOf_156 rfl 0 rfl ?_
    refine r_pcallV_i (nA := 0) C (Nat.le_of_ble_eq_true rfl) [] (c_X7_takenSnapshots l D cs ad M  htk) (tt_V ml_X7_333 im_X7_takenSnapshots se_X7_takenSnapshots in_X7 co_X7_takenSnapshots) ⟨rfl, rfl⟩ ⟨rfl, by decide, by decide, by decide⟩ ⟨Nat.le_of_ble_eq_true rfl, Nat.le_of_ble_eq_true rfl⟩ (by decide) rfl rfl rfl rfl rfl (Nat.le_of_ble_eq_true rfl) dX7_numberOf_157 ?_
    exact E 0 _ _ _ _ (Nat.le_of_ble_eq_true rfl) dX7_numberOf_160 (⟨show nI 0 + M.1 119 0 + M.1 119 1 = M.1 119 0 + M.1 119 1 by rw [show nI 0 = 0 from rfl, Int32.zero_add], rfl⟩)
  ·
    refine r_tableOut C 161 dX7_numberOf_1 (Or.inr (by rw [nI_toInt (by omega)]; omega)) (by decide) ?_
    refine r_aload_n C dX7_numberOf_161 rfl 0 rfl ?_
    refine r_get C (Cn := RX7) (T := TX7) (N := 10) (id := 117) (by decide) inw_X7 rfl rfl 3 (by decide) rfl fl_X7_27 rfl dX7_numberOf_162 ?_
    refine r_get C (Cn := RX6) (T := TX6) (N := 4) (id := 120) (by decide) inw_X6 rfl rfl 3 (by decide) rfl fl_X7_217 rfl dX7_numberOf_165 ?_
    exact E 0 _ _ _ _ (Nat.le_of_ble_eq_true rfl) dX7_numberOf_168 (⟨by unfold ctz; rw [if_neg (by omega), if_neg (by omega), if_neg (by omega), if_neg (by omega), if_neg (by omega), if_neg (by omega), if_neg (by omega), if_neg (by omega), if_neg (by omega), if_neg (by omega), if_neg (by omega)], rfl⟩)
theorem c_X0_tellA (l : Launch) (D : va_G) (cs : Nat → ClassId) (ad : Nat → Nat) (M : Mm) (b : Nat) (hb : b < 140) (hb7 : 117 ≤ b) (hbe : ∀ x y, wF cs ad b x y = .inr (0, [.int (x 0), .long (y 1), .long (y 2), .int (x 3)])) (z : Nat → Int32) (n d : Nat) (hg : gv M 0 (gH 0) z n d) (hn8 : n ≤ 8) (hm : gm z n) (mk : Nat → Nat) (hk : gk z n mk) (wt U S : Nat → Nat) (H : Nat) (hBr : rsz z n = nI 0 → bnH z n wt U S H) (hpo : rsz z n = nI 0 → hpos n wt U H) : ∀ sz : Nat, Met l yX0_tellOf (.code yX0_tellOf cX0_tellOf 2 none :: TT) { frames := 4, cells := 0, slots := 0, locals := 88 } (va_Pc [.ref (ad b), .ref (ad (gO 0))] (fun U9 => U9.heap.size = sz ∧ wB D cs ad (fA ad sz) M U9 ∧ xX (fA ad sz) U9 U9.heap)) (va_Qv (fun M2 => oB b M M2 ∧ tlP M2 b z n wt U S H) (wB D cs ad (fA ad sz)) (fA ad sz)) 0 0 (fA ad sz) := by
  intro sz
  rcases rs_cases hn8 hk with ⟨h1, h2⟩ | ⟨h1, h3, h2⟩ | ⟨h1, h3, h2⟩
  · exact metV (c_X0_tellOfN l D cs ad M b hb hb7 hbe z n d hg hn8 hm h1 sz) (fun M2 h => ⟨h.1, fun q => absurd q h2, fun _ => h.2⟩)
  · exact metV (c_X0_tellOfM l D cs ad M b hb hb7 hbe z n d hg hn8 hm h1 h3 sz) (fun M2 h => ⟨h.1, fun q => absurd q h2, fun _ => h.2⟩)
  · refine metV (c_X0_tellOf l D cs ad M b hb hb7 hbe z n d hg hn8 hm h1 h3 wt U S H (hBr h2) sz) (fun M2 h => ⟨h.1, fun _ => ?_, fun q => absurd h2 q⟩)
    have e := (bc_bn (wt := wt) (U := U) (S := S) (H := H) (hpo h2) (Nat.le_refl n)).1
    have h9 := h.2
    rw [e] at h9
    exact h9
set_option maxRecDepth 100000 in
set_option maxHeartbeats 4000000 in
theorem c_X7_share (l : Launch) (D : va_G) (cs : Nat → ClassId) (ad : Nat → Nat) (M : Mm) (z : Nat → Int32) (n d : Nat) (hg : gv M 0 (gH 0) z n d) (hn8 : n ≤ 8) (hm : gm z n) (mk wt9 : Nat → Nat) (hk : gk z n mk) (hw9 : gw z n wt9) (hsy : gs z n) (hcol : ∀ j, j < n → M.1 126 j = crs z n j) (hcq : cqV M z n) (wt U S : Nat → Nat) (H : Nat) (hBr : rsz z n = nI 0 → bnH z n wt U S H) (hpo : rsz z n = nI 0 → hpos n wt U H) (hnn : rsz z n = nI 0 → ¬ bnA wt U S H n = 0 → vf_n64 (FP.dmul (FP.i2d (wz z n (hvz z n (nI 0)))) (FP.l2d (lN (bnB wt U S H n)))) ∧ vf_n64 (FP.ddiv (FP.dmul (FP.i2d (wz z n (hvz z n (nI 0)))) (FP.l2d (lN (bnB wt U S H n)))) (FP.l2d (lN (bnA wt U S H n))))) (hAb : bnA wt U S H n < 2 ^ 62) : ∀ sz : Nat, Met l yX7_share (.code yX7_share cX7_share 3 (some .double) :: TT) { frames := 5, cells := 0, slots := 0, locals := 109 } (va_Pc [.ref (ad 117)] (fun U9 => U9.heap.size = sz ∧ wB D cs ad (fA ad sz) M U9 ∧ xX (fA ad sz) U9 U9.heap)) (va_Qd (fun r M2 => r = nrz z n wt U S H ∧ oB 129 M M2) (wB D cs ad (fA ad sz)) (fA ad sz)) 0 0 (fA ad sz) := by
  refine sn_D (by decide) (Nat.le_of_ble_eq_true rfl) (fun κ C hN E => ?_)
  refine r_lv (lv2 := [(0, .ref (ad 117))]) [0] rfl ?_
  refine r_aload_n C dX7_share_0 rfl 0 rfl ?_
  refine r_get C (Cn := RX7) (T := TX7) (N := 10) (id := 117) (by decide) inw_X7 rfl rfl 7 (by decide) rfl fl_X7_55 rfl dX7_share_1 ?_
  refine r_aload_n C dX7_share_4 rfl 0 rfl ?_
  refine r_get C (Cn := RX7) (T := TX7) (N := 10) (id := 117) (by decide) inw_X7 rfl rfl 0 (by decide) rfl fl_X7_12 rfl dX7_share_5 ?_
  refine r_ncallV_v (nA := 1) C hN (Nat.le_of_ble_eq_true rfl) [.ref (ad (gO 0))] (c_X0_tellA l D cs ad M  129 (by decide) (by decide) (fun _ _ => rfl) z n d hg hn8 hm mk hk wt U S H hBr hpo) (tt_V ml_X7_244 im_X0_tellOf se_X0_tellOf in_X0 co_X0_tellOf) ⟨rfl, rfl⟩ ⟨rfl, by decide, by decide, by decide⟩ ⟨Nat.le_of_ble_eq_true rfl, Nat.le_of_ble_eq_true rfl⟩ (by decide) rfl rfl rfl rfl rfl (Nat.le_of_ble_eq_true rfl) dX7_share_8 (fun Mu1 qu1 => ?_)
  by_cases hr : rsz z n = nI 0
  ·
    refine r_aload_n C dX7_share_11 rfl 0 rfl ?_
    refine r_get C (Cn := RX7) (T := TX7) (N := 10) (id := 117) (by decide) inw_X7 rfl rfl 7 (by decide) rfl fl_X7_55 rfl dX7_share_12 ?_
    refine r_get C (Cn := RX0) (T := TX0) (N := 4) (id := 129) (by decide) inw_X0 rfl rfl 1 (by decide) rfl fl_X7_336 rfl dX7_share_15 ?_
    refine r_topl (w := lN (bnA wt U S H n)) (qu1.2.1 hr).2.1 ?_
    refine r_lconst C (lN 0) dX7_share_18 rfl ?_
    refine r_lcmp C dX7_share_19 ?_
    refine r_if_gt C 25 dX7_share_20 (by decide) (fun h20 => ?_) (fun h20 => ?_)
    ·
      rw [lgcN_gt (by omega) (by omega)] at h20
      refine r_aload_n C dX7_share_25 rfl 0 rfl ?_
      refine r_get C (Cn := RX7) (T := TX7) (N := 10) (id := 117) (by decide) inw_X7 rfl rfl 6 (by decide) rfl fl_X7_48 rfl dX7_share_26 ?_
      refine r_aload_n C dX7_share_29 rfl 0 rfl ?_
      refine r_get C (Cn := RX7) (T := TX7) (N := 10) (id := 117) (by decide) inw_X7 rfl rfl 6 (by decide) rfl fl_X7_48 rfl dX7_share_30 ?_
      refine r_iconst C (nI 0) dX7_share_33 (by decide) ?_
      refine r_pcallV_i (nA := 1) C (Nat.le_of_ble_eq_true rfl) [.int (nI 0)] (c_X1_heaviestWith l D cs ad Mu1  z n hn8 (hcq.k (qu1.1.1 127 (by decide)) (qu1.1.1 128 (by decide))) 0 (Nat.two_pow_pos n)) (tt_V ml_X7_321 im_X1_heaviestWith se_X1_heaviestWith in_X1 co_X1_heaviestWith) ⟨rfl, rfl⟩ ⟨rfl, by decide, by decide, by decide⟩ ⟨Nat.le_of_ble_eq_true rfl, Nat.le_of_ble_eq_true rfl⟩ (by decide) rfl rfl rfl rfl rfl (Nat.le_of_ble_eq_true rfl) dX7_share_34 ?_
      refine r_pcallV_i (nA := 1) C (Nat.le_of_ble_eq_true rfl) [.int (nI (hcS z n 0 (2 ^ n)))] (c_X1_weightOf l D cs ad Mu1  z n hn8 (hcq.k (qu1.1.1 127 (by decide)) (qu1.1.1 128 (by decide))) (hcS z n 0 (2 ^ n)) (hcS_lt (Nat.two_pow_pos n) (Nat.le_refl _))) (tt_V ml_X7_324 im_X1_weightOf se_X1_weightOf in_X1 co_X1_weightOf) ⟨rfl, rfl⟩ ⟨rfl, by decide, by decide, by decide⟩ ⟨Nat.le_of_ble_eq_true rfl, Nat.le_of_ble_eq_true rfl⟩ (by decide) rfl rfl rfl rfl rfl (Nat.le_of_ble_eq_true rfl) dX7_share_37 ?_
      refine r_topi (w := (wz z n (hvz z n (nI 0)))) ((hc_z hn8 hk hw9 hsy (Nat.two_pow_pos n) (icl_0 hn8 hk)).2) ?_
      refine r_i2d C dX7_share_40 ?_
      refine r_dstore_n C [(1, .double (FP.i2d (wz z n (hvz z n (nI 0))))), (0, .ref (ad 117))] dX7_share_41 rfl (by decide) rfl ?_
      refine r_dload_n C dX7_share_42 rfl 0 rfl ?_
      refine r_aload_n C dX7_share_43 rfl 1 rfl ?_
      refine r_get C (Cn := RX7) (T := TX7) (N := 10) (id := 117) (by decide) inw_X7 rfl rfl 7 (by decide) rfl fl_X7_55 rfl dX7_share_44 ?_
      refine r_get C (Cn := RX0) (T := TX0) (N := 4) (id := 129) (by decide) inw_X0 rfl rfl 2 (by decide) rfl fl_X7_340 rfl dX7_share_47 ?_
      refine r_topl (w := lN (bnB wt U S H n)) (qu1.2.1 hr).2.2.1 ?_
      refine r_l2d C dX7_share_50 ?_
      refine r_dmul C dX7_share_51 (hnn hr (by omega)).1 ?_
      refine r_aload_n C dX7_share_52 rfl 1 rfl ?_
      refine r_get C (Cn := RX7) (T := TX7) (N := 10) (id := 117) (by decide) inw_X7 rfl rfl 7 (by decide) rfl fl_X7_55 rfl dX7_share_53 ?_
      refine r_get C (Cn := RX0) (T := TX0) (N := 4) (id := 129) (by decide) inw_X0 rfl rfl 1 (by decide) rfl fl_X7_336 rfl dX7_share_56 ?_
      refine r_topl (w := lN (bnA wt U S H n)) (qu1.2.1 hr).2.1 ?_
      refine r_l2d C dX7_share_59 ?_
      refine r_ddiv C dX7_share_60 (hnn hr (by omega)).2 ?_
      exact E 0 _ _ _ _ (Nat.le_of_ble_eq_true rfl) dX7_share_61 (⟨by unfold nrz; rw [if_pos hr, if_neg (by omega)], qu1.1⟩)
    ·
      rw [lgcN_gt (by omega) (by omega)] at h20
      refine r_dconst0 C dX7_share_23 ?_
      exact E 0 _ _ _ _ (Nat.le_of_ble_eq_true rfl) dX7_share_24 (⟨by unfold nrz; rw [if_pos hr, if_pos (by omega)], qu1.1⟩)
  ·
    refine r_aload_n C dX7_share_11 rfl 0 rfl ?_
    refine r_get C (Cn := RX7) (T := TX7) (N := 10) (id := 117) (by decide) inw_X7 rfl rfl 7 (by decide) rfl fl_X7_55 rfl dX7_share_12 ?_
    refine r_get C (Cn := RX0) (T := TX0) (N := 4) (id := 129) (by decide) inw_X0 rfl rfl 1 (by decide) rfl fl_X7_336 rfl dX7_share_15 ?_
    refine r_topl (w := (-1)) (qu1.2.2 hr).2.1 ?_
    refine r_lconst C (lN 0) dX7_share_18 rfl ?_
    refine r_lcmp C dX7_share_19 ?_
    refine r_if_gt C 25 dX7_share_20 (by decide) (fun h20 => ?_) (fun h20 => ?_)
    · exact absurd h20 (by decide)
    ·
      refine r_dconst0 C dX7_share_23 ?_
      exact E 0 _ _ _ _ (Nat.le_of_ble_eq_true rfl) dX7_share_24 (⟨(if_neg hr).symm, qu1.1⟩)
set_option maxRecDepth 100000 in
set_option maxHeartbeats 4000000 in
theorem c_X7_whyNoBound (l : Launch) (D : va_G) (cs : Nat → ClassId) (ad : Nat → Nat) (M : Mm) (z : Nat → Int32) (n d : Nat) (hg : gv M 0 (gH 0) z n d) (hn8 : n ≤ 8) (hm : gm z n) (mk : Nat → Nat) (hk : gk z n mk) (p : Nat) (hp : p ≤ 2) : ∀ sz : Nat, Met l yX7_whyNoBound (.code yX7_whyNoBound cX7_whyNoBound 4 (some .int) :: TT) { frames := 4, cells := 0, slots := 0, locals := 88 } (va_Pc [.ref (ad 117), .int (nI p)] (fun U9 => U9.heap.size = sz ∧ wB D cs ad (fA ad sz) M U9 ∧ xX (fA ad sz) U9 U9.heap)) (va_Qi (fun r M2 => r = rnz z n p ∧ M2 = M) (wB D cs ad (fA ad sz)) (fA ad sz)) 0 0 (fA ad sz) := by
  refine sn_I (by decide) (Nat.le_of_ble_eq_true rfl) (fun κ C hN E => ?_)
  refine r_lv (lv2 := [(0, .ref (ad 117)), (1, .int (nI p))]) [0, 1] rfl ?_
  refine r_aload_n C dX7_whyNoBound_0 rfl 0 rfl ?_
  refine r_get C (Cn := RX7) (T := TX7) (N := 10) (id := 117) (by decide) inw_X7 rfl rfl 0 (by decide) rfl fl_X7_12 rfl dX7_whyNoBound_1 ?_
  refine r_npcallV_i (nA := 0) C hN (Nat.le_of_ble_eq_true rfl) [] (c_X4_firstUnfit l D cs ad M 0  (by decide) (gH 0) z n d hg hn8 hm) (tt_V ml_X7_343 im_X4_firstUnfit se_X4_firstUnfit in_X4 co_X4_firstUnfit) ⟨rfl, rfl⟩ ⟨rfl, by decide, by decide, by decide⟩ ⟨Nat.le_of_ble_eq_true rfl, Nat.le_of_ble_eq_true rfl⟩ (by simp only [gO, gN, gW, gL, gR, gH] <;> omega) (wF_O cs ad (by decide) _ _) rfl rfl rfl rfl (Nat.le_of_ble_eq_true rfl) dX7_whyNoBound_4 ?_
  refine r_istore_n C [(2, .int (fuz z n)), (0, .ref (ad 117)), (1, .int (nI p))] dX7_whyNoBound_7 rfl (by decide) rfl ?_
  rcases mf_fu hn8 hk with ⟨hfu, hmf⟩ | ⟨a, b9, ha, hb9, hfu, hub, hmf⟩
  ·
    refine r_iload_n C dX7_whyNoBound_8 rfl 0 rfl ?_
    refine r_iconst C ((-1)) dX7_whyNoBound_9 (by decide) ?_
    refine r_icmp_eq C 39 dX7_whyNoBound_10 (by decide) (fun h10 => ?_) (fun h10 => ?_)
    ·
      refine r_aload_n C dX7_whyNoBound_39 rfl 1 rfl ?_
      refine r_get C (Cn := RX7) (T := TX7) (N := 10) (id := 117) (by decide) inw_X7 rfl rfl 0 (by decide) rfl fl_X7_12 rfl dX7_whyNoBound_40 ?_
      refine r_aload_n C dX7_whyNoBound_43 rfl 1 rfl ?_
      refine r_get C (Cn := RX7) (T := TX7) (N := 10) (id := 117) (by decide) inw_X7 rfl rfl 0 (by decide) rfl fl_X7_12 rfl dX7_whyNoBound_44 ?_
      refine r_get C (Cn := RX4) (T := TX4) (N := 6) (id := (gO 0)) (by simp only [gO, gN, gW, gL, gR, gH] <;> omega) inw_X4 (wF_O cs ad (by decide) _ _) rfl 5 (by decide) rfl fl_X7_145 rfl dX7_whyNoBound_47 ?_
      refine r_npcallV_i (nA := 1) C hN (Nat.le_of_ble_eq_true rfl) [.ref (ad (gH 0))] (c_X4_firstMissed l D cs ad M 0  (by decide) (gH 0) z n d hg hn8 (by decide) (fun _ _ => wF_H cs ad (by decide) _ _)) (tt_V ml_X7_349 im_X4_firstMissed se_X4_firstMissed in_X4 co_X4_firstMissed) ⟨rfl, rfl⟩ ⟨rfl, by decide, by decide, by decide⟩ ⟨Nat.le_of_ble_eq_true rfl, Nat.le_of_ble_eq_true rfl⟩ (by simp only [gO, gN, gW, gL, gR, gH] <;> omega) (wF_O cs ad (by decide) _ _) rfl rfl rfl rfl (Nat.le_of_ble_eq_true rfl) dX7_whyNoBound_50 ?_
      refine r_istore_n C [(3, .int (upR z n)), (2, .int (fuz z n)), (0, .ref (ad 117)), (1, .int (nI p))] dX7_whyNoBound_53 rfl (by decide) rfl ?_
      refine r_iload_n C dX7_whyNoBound_54 rfl 0 rfl ?_
      refine r_iconst C ((-1)) dX7_whyNoBound_55 (by decide) ?_
      refine r_icmp_eq C 78 dX7_whyNoBound_56 (by decide) (fun h56 => ?_) (fun h56 => ?_)
      ·
        refine r_iload_n C dX7_whyNoBound_78 rfl 3 rfl ?_
        refine r_ifN_ne C 86 dX7_whyNoBound_79 (by decide) (by omega) (fun h79 => ?_) (fun h79 => ?_)
        ·
          refine r_iconst C ((-1)) dX7_whyNoBound_86 (by decide) ?_
          exact E 0 _ _ _ _ (Nat.le_of_ble_eq_true rfl) dX7_whyNoBound_87 (⟨by rw [rn_c1 hmf]; simp [h56, h79], rfl⟩)
        ·
          refine r_iconst C (nI 0) dX7_whyNoBound_82 (by decide) ?_
          refine r_goto C 87 dX7_whyNoBound_83 (by decide) ?_
          exact E 0 _ _ _ _ (Nat.le_of_ble_eq_true rfl) dX7_whyNoBound_87 (⟨by rw [rn_c1 hmf]; simp [h56, h79], rfl⟩)
      ·
        refine r_iload_n C dX7_whyNoBound_59 rfl 3 rfl ?_
        refine r_ifN_ne C 67 dX7_whyNoBound_60 (by decide) (by omega) (fun h60 => ?_) (fun h60 => ?_)
        ·
          refine r_iload_n C dX7_whyNoBound_67 rfl 3 rfl ?_
          refine r_iconst C (nI 1) dX7_whyNoBound_68 (by decide) ?_
          refine r_icmpN_ne C 76 dX7_whyNoBound_69 (by decide) (by omega) (by omega) (fun h69 => ?_) (fun h69 => ?_)
          ·
            refine r_iconst C ((-1)) dX7_whyNoBound_76 (by decide) ?_
            exact E 0 _ _ _ _ (Nat.le_of_ble_eq_true rfl) dX7_whyNoBound_77 (⟨by rw [rn_c1 hmf]; simp [h56, h60, h69], rfl⟩)
          ·
            refine r_iload_n C dX7_whyNoBound_72 rfl 0 rfl ?_
            refine r_goto C 77 dX7_whyNoBound_73 (by decide) ?_
            exact E 0 _ _ _ _ (Nat.le_of_ble_eq_true rfl) dX7_whyNoBound_77 (⟨by rw [rn_c1 hmf]; simp [h56, h60, h69], rfl⟩)
        ·
          refine r_iconst C (nI 2) dX7_whyNoBound_63 (by decide) ?_
          refine r_goto C 77 dX7_whyNoBound_64 (by decide) ?_
          exact E 0 _ _ _ _ (Nat.le_of_ble_eq_true rfl) dX7_whyNoBound_77 (⟨by rw [rn_c1 hmf]; simp [h56, h60], rfl⟩)
    · exact absurd hfu h10
  ·
    refine r_lve (lv2 := [(2, .int (nI a)), (0, .ref (ad 117)), (1, .int (nI p))]) (by rw [hfu]) ?_
    refine r_iload_n C dX7_whyNoBound_8 rfl 0 rfl ?_
    refine r_iconst C ((-1)) dX7_whyNoBound_9 (by decide) ?_
    refine r_icmp_eq C 39 dX7_whyNoBound_10 (by decide) (fun h10 => ?_) (fun h10 => ?_)
    · exact absurd h10 (m1_ne (by omega))
    ·
      refine r_iload_n C dX7_whyNoBound_13 rfl 2 rfl ?_
      refine r_ifN_ne C 21 dX7_whyNoBound_14 (by decide) (by omega) (fun h14 => ?_) (fun h14 => ?_)
      ·
        refine r_iload_n C dX7_whyNoBound_21 rfl 2 rfl ?_
        refine r_iconst C (nI 1) dX7_whyNoBound_22 (by decide) ?_
        refine r_icmpN_ne C 30 dX7_whyNoBound_23 (by decide) (by omega) (by omega) (fun h23 => ?_) (fun h23 => ?_)
        ·
          refine r_aload_n C dX7_whyNoBound_30 rfl 1 rfl ?_
          refine r_get C (Cn := RX7) (T := TX7) (N := 10) (id := 117) (by decide) inw_X7 rfl rfl 0 (by decide) rfl fl_X7_12 rfl dX7_whyNoBound_31 ?_
          refine r_iload_n C dX7_whyNoBound_34 rfl 0 rfl ?_
          refine r_npcallV_i (nA := 1) C hN (Nat.le_of_ble_eq_true rfl) [.int (nI a)] (c_X4_unfitPartner l D cs ad M 0  (by decide) (gH 0) z n d hg hn8 hm a ha) (tt_V ml_X7_346 im_X4_unfitPartner se_X4_unfitPartner in_X4 co_X4_unfitPartner) ⟨rfl, rfl⟩ ⟨rfl, by decide, by decide, by decide⟩ ⟨Nat.le_of_ble_eq_true rfl, Nat.le_of_ble_eq_true rfl⟩ (by simp only [gO, gN, gW, gL, gR, gH] <;> omega) (wF_O cs ad (by decide) _ _) rfl rfl rfl rfl (Nat.le_of_ble_eq_true rfl) dX7_whyNoBound_35 ?_
          refine r_topi (w := nI b9) (hub) ?_
          exact E 0 _ _ _ _ (Nat.le_of_ble_eq_true rfl) dX7_whyNoBound_38 (⟨by rw [rn_c2 (by omega) (by omega) hmf]; simp [h14, h23], rfl⟩)
        ·
          refine r_iload_n C dX7_whyNoBound_26 rfl 0 rfl ?_
          refine r_goto C 38 dX7_whyNoBound_27 (by decide) ?_
          exact E 0 _ _ _ _ (Nat.le_of_ble_eq_true rfl) dX7_whyNoBound_38 (⟨by rw [rn_c2 (by omega) (by omega) hmf]; simp [h14, h23], rfl⟩)
      ·
        refine r_iconst C (nI 1) dX7_whyNoBound_17 (by decide) ?_
        refine r_goto C 38 dX7_whyNoBound_18 (by decide) ?_
        exact E 0 _ _ _ _ (Nat.le_of_ble_eq_true rfl) dX7_whyNoBound_38 (⟨by rw [rn_c2 (by omega) (by omega) hmf]; simp [h14], rfl⟩)
