/-! ===== the reference's changes (written by wip/whole/gen/model3.py) ===== -/
theorem mx {M M' : Mm} (h1 : ∀ i, M.1 i = M'.1 i) (h2 : ∀ i, M.2 i = M'.2 i) : M = M' := Prod.ext (funext h1) (funext h2)
theorem mA_id {M : Mm} {i : Nat} {f : Nat → Int32} (h : f = M.1 i) : M = mA M i f := mx (fun j => by unfold mA; dsimp only; split <;> simp_all) (fun _ => rfl)
theorem mI_A (M : Mm) (i k : Nat) (v : Int32) : mI M i k v = mA M i (upd (M.1 i) k v) := mx (fun j => by unfold mA mI; dsimp only; split <;> simp_all) (fun _ => rfl)
theorem mIA (M : Mm) (i k : Nat) (v : Int32) (f : Nat → Int32) : mI (mA M i f) i k v = mA M i (upd f k v) := mx (fun j => by unfold mA mI; dsimp only; split <;> simp_all) (fun _ => rfl)
theorem mAA (M : Mm) (i : Nat) (f g : Nat → Int32) : mA (mA M i f) i g = mA M i g := mx (fun j => by unfold mA; dsimp only; split <;> simp_all) (fun _ => rfl)
theorem mII (M : Mm) (i k : Nat) (v w : Int32) : mI (mI M i k v) i k w = mI M i k w := mx (fun j => by unfold mI; dsimp only; split <;> first | (rename_i h; subst h; funext a; simp [upd]; intros; simp_all) | simp_all) (fun _ => rfl)
theorem mAI (M : Mm) {i j k : Nat} (v : Int32) (f : Nat → Int32) (h : i ≠ j) : mI (mA M i f) j k v = mA (mI M j k v) i f := mx (fun a => by unfold mA mI; dsimp only; by_cases e1 : a = i <;> by_cases e2 : a = j <;> simp_all) (fun _ => rfl)
theorem wit_iff {a lo hi : Nat} (ha : a < 2 ^ 31) (hlo : lo < 2 ^ 31) (hhi : hi < 2 ^ 31) : wit (nI a) (nI lo) (nI hi) = true ↔ lo ≤ a ∧ a ≤ hi := by
  unfold wit
  rw [Bool.and_eq_true, Bool.not_eq_true', Bool.not_eq_true', decide_eq_false_iff_not, decide_eq_false_iff_not, nI_ltI ha hlo, nI_ltI hhi ha]
  omega
theorem wit_n {a n : Nat} (h : a < n) (hn : n ≤ 60) : wit (nI a) (nI 0) (nI n - nI 1) = true := by
  rw [pk_sub (by omega)]
  exact (wit_iff (by omega) (by omega) (by omega)).mpr ⟨by omega, by omega⟩
/-- a row with its cells from 55 on moved to the front, below k -/
def shf (h : Nat → Int32) (k : Nat) : Nat → Int32 := fun j => if j + 55 < k then h (j + 55) else h j
theorem shf_0 (h : Nat → Int32) : shf h 55 = h := by
  funext j; unfold shf; rw [if_neg (by omega)]
theorem shf_s {h : Nat → Int32} {k : Nat} (hk : 55 ≤ k) : upd (shf h k) (k - 55) (h k) = shf h (k + 1) := by
  funext j; simp only [shf, upd]; repeat' split
  all_goals first | rfl | (exfalso; omega) | (subst_vars; congr 1; omega) | (congr 1; omega) | (congr 1 <;> omega)
theorem cpy_0 (f g : Nat → Int32) (a d : Nat) : va_cpy f g a d 0 = g := by
  funext j; unfold va_cpy; rw [if_neg (by omega)]
theorem cpy_s (f g : Nat → Int32) (d k : Nat) : upd (va_cpy f g 0 d k) (d + k) (f k) = va_cpy f g 0 d (k + 1) := by
  funext j; simp only [va_cpy, upd]; repeat' split
  all_goals first | rfl | (exfalso; omega) | (subst_vars; congr 1; omega) | (congr 1; omega) | (congr 1 <;> omega)
def svN (s : Nat) : Nat := if s = 6 then 5 else s
def svH (h z : Nat → Int32) (s : Nat) : Nat → Int32 := va_cpy z (if s = 6 then shf h 330 else h) 0 (55 * svN s) 55
def saveM (M : Mm) (s : Nat) : Mm := mA (mI M 135 1 (nI (svN s + 1))) 137 (svH (M.1 137) (M.1 136) s)
/-- the row of an empty graph -/
def emR (z : Nat → Int32) (a b : Nat) : Nat → Int32 := fun j => if j = 0 then nI a else if j = 1 then nI b else if 2 ≤ j ∧ j < 2 + a then nI 1 else if j < 54 then nI 0 else z j
def emA (z : Nat → Int32) (k : Nat) : Nat → Int32 := fun j => if j < k then nI 0 else z j
def emB (z : Nat → Int32) (a b k : Nat) : Nat → Int32 := fun j => if j = 0 then nI a else if j = 1 then nI b else if 2 ≤ j ∧ j < 2 + k then nI 1 else if j < 54 then nI 0 else z j
theorem emA_0 (z : Nat → Int32) : emA z 0 = z := by funext j; unfold emA; rw [if_neg (by omega)]
theorem emA_s (z : Nat → Int32) (k : Nat) : upd (emA z k) k (nI 0) = emA z (k + 1) := by
  funext j; simp only [emA, upd]; repeat' split
  all_goals first | rfl | (exfalso; omega) | (subst_vars; congr 1; omega) | (congr 1; omega) | (congr 1 <;> omega)
theorem emB_0 (z : Nat → Int32) (a b : Nat) : upd (upd (emA z 54) 0 (nI a)) 1 (nI b) = emB z a b 0 := by
  funext j; simp only [emA, emB, upd]; repeat' split
  all_goals first | rfl | (exfalso; omega) | (subst_vars; congr 1; omega) | (congr 1; omega) | (congr 1 <;> omega)
theorem emB_s (z : Nat → Int32) (a b k : Nat) : upd (emB z a b k) (2 + k) (nI 1) = emB z a b (k + 1) := by
  funext j; simp only [emB, upd]; repeat' split
  all_goals first | rfl | (exfalso; omega) | (subst_vars; congr 1; omega) | (congr 1; omega) | (congr 1 <;> omega)
def jb (x : Int32) (b : Nat) (i : Bool) : Int32 := (x &&& ntI (s1 b)) ||| (if i = true then s1 b else nI 0)
def joR (z : Nat → Int32) (a b : Nat) (i : Bool) : Nat → Int32 := upd (upd z (10 + a) (jb (z (10 + a)) b i)) (10 + b) (jb (z (10 + b)) a i)
def cv (n v : Nat) (x : Int32) : Int32 := ((s1 n - nI 1) &&& ntI x) &&& ntI (s1 v)
def cpl (z : Nat → Int32) (n k : Nat) : Nat → Int32 := fun j => if 10 ≤ j ∧ j < 10 + k then cv n (j - 10) (z j) else z j
theorem cpl_0 (z : Nat → Int32) (n : Nat) : cpl z n 0 = z := by funext j; unfold cpl; rw [if_neg (by omega)]
theorem cpl_s (z : Nat → Int32) (n k : Nat) : upd (cpl z n k) (10 + k) (cv n k (z (10 + k))) = cpl z n (k + 1) := by
  funext j; simp only [cpl, upd]; repeat' split
  all_goals first | rfl | (exfalso; omega) | (subst_vars; congr 1; omega) | (congr 1; omega) | (congr 1 <;> omega)
theorem cpl_at (z : Nat → Int32) (n k : Nat) : cpl z n k (10 + k) = z (10 + k) := by unfold cpl; rw [if_neg (by omega)]
def wo (x : Int32) (k : Nat) : Int32 := (x &&& (s1 k - nI 1)) ||| ((x >>> (nI (k + 1) &&& 31)) <<< (nI k &&& 31))
set_option maxRecDepth 100000 in
set_option maxHeartbeats 4000000 in
theorem c_X8_saveL (l : Launch) (D : va_G) (cs : Nat → ClassId) (ad : Nat → Nat) (M : Mm) (s : Nat) (hs : M.1 135 1 = nI s) (hs6 : s < 6) : ∀ sz : Nat, Met l yX8_save (.code yX8_save cX8_save 2 none :: TT) { frames := 0, cells := 0, slots := 0, locals := 0 } (va_Pc [.ref (ad 135)] (fun U9 => U9.heap.size = sz ∧ wB D cs ad (fA ad sz) M U9)) (va_Qv (fun M2 => M2 = saveM M s) (wB D cs ad (fA ad sz)) (fA ad sz)) 0 0 (fA ad sz) := by
  refine st_V (by decide) (Nat.le_of_ble_eq_true rfl) (fun κ C E => ?_)
  refine r_lv (lv2 := [(0, .ref (ad 135))]) [0] rfl ?_
  refine r_aload_n C dX8_save_0 rfl 0 rfl ?_
  refine r_get C (Cn := RX8) (T := TX8) (N := 18) (id := 135) (by decide) inw_X8 rfl rfl 1 (by decide) rfl fl_X8_45 rfl dX8_save_1 ?_
  refine r_topi hs ?_
  refine r_bipush C (nI 6) dX8_save_4 (by decide) ?_
  refine r_icmpN_ne C 50 dX8_save_6 (by decide) (by omega) (by omega) (fun h6 => ?_) (fun h6 => ?_)
  ·
    refine r_iconst C (nI 0) dX8_save_50 (by decide) ?_
    refine r_istore_n C [(1, .int (nI 0)), (0, .ref (ad 135))] dX8_save_51 rfl (by decide) rfl ?_
    have Lp : ∀ (f k : Nat), 55 + 1 ≤ k + f → k ≤ 55 → VV l D cs ad 2 κ 0 (mA M 137 (va_cpy (M.1 136) (M.1 137) 0 (55 * s) k)) 52 [(1, .int (nI k)), (0, .ref (ad 135))] [] := by
      intro f
      induction f with
      | zero => intro k hk1 hk2; exact absurd hk1 (by omega)
      | succ f ih =>
        intro k hk1 hk2
        refine r_iload_n C dX8_save_52 rfl 0 rfl ?_
        refine r_bipush C (nI 55) dX8_save_53 (by decide) ?_
        refine r_icmpN_ge C 84 dX8_save_55 (by decide) (by omega) (by omega) (fun h55 => ?_) (fun h55 => ?_)
        ·
          have hk9 : 55 = k := by omega
          subst hk9
          refine r_aload_n C dX8_save_84 rfl 1 rfl ?_
          refine r_dup C dX8_save_85 rfl ?_
          refine r_get C (Cn := RX8) (T := TX8) (N := 18) (id := 135) (by decide) inw_X8 rfl rfl 1 (by decide) rfl fl_X8_45 rfl dX8_save_86 ?_
          refine r_topi (w := (M.1 135 1)) (rfl) ?_
          refine r_topi hs ?_
          refine r_iconst C (nI 1) dX8_save_89 (by decide) ?_
          refine r_iadd C dX8_save_90 ?_
          refine r_topi (nI_add s 1) ?_
          refine r_put C (M2 := (mI (mA M 137 (va_cpy (M.1 136) (M.1 137) 0 (55 * s) 55)) 135 1 (nI (s + 1)))) (Cn := RX8) (T := TX8) (N := 18) (id := 135) (by decide) inw_X8 tyX8_ok nmX8 rfl rfl 1 (by decide) rfl fl_X8_45 rfl rfl (rfl) (Nat.le_of_ble_eq_true rfl) (fun j hj => ⟨mI_ne _ hj, rfl⟩) rfl dX8_save_91 ?_
          exact E 0 _ _ _ (Nat.le_of_ble_eq_true rfl) dX8_save_94 (by rw [mAI _ _ _ (by decide)]; unfold saveM svH svN; rw [if_neg (by omega), if_neg (by omega)])
        ·
          refine r_aload_n C dX8_save_58 rfl 1 rfl ?_
          refine r_get C (Cn := RX8) (T := TX8) (N := 18) (id := 135) (by decide) inw_X8 rfl rfl 2 (by decide) rfl fl_X8_13 rfl dX8_save_59 ?_
          refine r_bipush C (nI 55) dX8_save_62 (by decide) ?_
          refine r_aload_n C dX8_save_64 rfl 1 rfl ?_
          refine r_get C (Cn := RX8) (T := TX8) (N := 18) (id := 135) (by decide) inw_X8 rfl rfl 1 (by decide) rfl fl_X8_45 rfl dX8_save_65 ?_
          refine r_topi (w := (M.1 135 1)) (rfl) ?_
          refine r_topi hs ?_
          refine r_imul C dX8_save_68 ?_
          refine r_topi (pk_mul 55 s) ?_
          refine r_iload_n C dX8_save_69 rfl 0 rfl ?_
          refine r_iadd C dX8_save_70 ?_
          refine r_topi (nI_add (55 * s) k) ?_
          refine r_aload_n C dX8_save_71 rfl 1 rfl ?_
          refine r_get C (Cn := RX8) (T := TX8) (N := 18) (id := 135) (by decide) inw_X8 rfl rfl 0 (by decide) rfl fl_X8_7 rfl dX8_save_72 ?_
          refine r_iload_n C dX8_save_75 rfl 0 rfl ?_
          refine r_iald C (id := 136) (n := 55) (a := k) (by decide) rfl (by omega) (by decide) dX8_save_76 ?_
          refine r_topi (w := (M.1 136 k)) (rfl) ?_
          refine r_iast C (id := 137) (n := 330) (a := (55 * s) + k) (by decide) (fun _ => rfl) (by omega) (by decide) dX8_save_77 ?_
          refine r_iinc C (nI (k + 1)) [(1, .int (nI (k + 1))), (0, .ref (ad 135))] dX8_save_78 (j := 0) rfl (inc_n k 1) (by decide) rfl ?_
          refine r_goto C 52 dX8_save_81 (by decide) ?_
          refine r_lv (lv2 := [(1, .int (nI (k + 1))), (0, .ref (ad 135))]) [0, 1] rfl ?_
          refine r_mem (M2 := (mA M 137 (va_cpy (M.1 136) (M.1 137) 0 (55 * s) (k + 1)))) (by rw [mIA, cpy_s]) ?_
          exact ih (k + 1) (by omega) (by omega)
    refine r_lv (lv2 := [(1, .int (nI 0)), (0, .ref (ad 135))]) [0, 1] rfl ?_
    refine r_mem (M2 := mA M 137 (va_cpy (M.1 136) (M.1 137) 0 (55 * s) 0)) (mA_id (cpy_0 _ _ _ _)) ?_
    exact Lp (55 + 1) 0 (by omega) (by omega)
  · exact absurd h6 (by omega)
set_option maxRecDepth 100000 in
set_option maxHeartbeats 4000000 in
theorem c_X8_save6 (l : Launch) (D : va_G) (cs : Nat → ClassId) (ad : Nat → Nat) (M : Mm) (hs : M.1 135 1 = nI 6) : ∀ sz : Nat, Met l yX8_save (.code yX8_save cX8_save 2 none :: TT) { frames := 0, cells := 0, slots := 0, locals := 0 } (va_Pc [.ref (ad 135)] (fun U9 => U9.heap.size = sz ∧ wB D cs ad (fA ad sz) M U9)) (va_Qv (fun M2 => M2 = saveM M 6) (wB D cs ad (fA ad sz)) (fA ad sz)) 0 0 (fA ad sz) := by
  refine st_V (by decide) (Nat.le_of_ble_eq_true rfl) (fun κ C E => ?_)
  refine r_lv (lv2 := [(0, .ref (ad 135))]) [0] rfl ?_
  refine r_aload_n C dX8_save_0 rfl 0 rfl ?_
  refine r_get C (Cn := RX8) (T := TX8) (N := 18) (id := 135) (by decide) inw_X8 rfl rfl 1 (by decide) rfl fl_X8_45 rfl dX8_save_1 ?_
  refine r_topi hs ?_
  refine r_bipush C (nI 6) dX8_save_4 (by decide) ?_
  refine r_icmpN_ne C 50 dX8_save_6 (by decide) (by omega) (by omega) (fun h6 => ?_) (fun h6 => ?_)
  · exact absurd h6 (by decide)
  ·
    refine r_bipush C (nI 55) dX8_save_9 (by decide) ?_
    refine r_istore_n C [(1, .int (nI 55)), (0, .ref (ad 135))] dX8_save_11 rfl (by decide) rfl ?_
    have Lq : ∀ (f k : Nat), 330 + 1 ≤ k + f → k ≤ 330 → 55 ≤ k → VV l D cs ad 2 κ 0 (mA M 137 (shf (M.1 137) k)) 12 [(1, .int (nI k)), (0, .ref (ad 135))] [] := by
      intro f
      induction f with
      | zero => intro k hk1 hk2 hI; exact absurd hk1 (by omega)
      | succ f ih =>
        intro k hk1 hk2 hI
        refine r_iload_n C dX8_save_12 rfl 0 rfl ?_
        refine r_sipush C (nI 330) dX8_save_13 (by decide) ?_
        refine r_icmpN_ge C 40 dX8_save_16 (by decide) (by omega) (by omega) (fun h16 => ?_) (fun h16 => ?_)
        ·
          have hk9 : 330 = k := by omega
          subst hk9
          refine r_aload_n C dX8_save_40 rfl 1 rfl ?_
          refine r_dup C dX8_save_41 rfl ?_
          refine r_get C (Cn := RX8) (T := TX8) (N := 18) (id := 135) (by decide) inw_X8 rfl rfl 1 (by decide) rfl fl_X8_45 rfl dX8_save_42 ?_
          refine r_topi (w := (M.1 135 1)) (rfl) ?_
          refine r_topi hs ?_
          refine r_iconst C (nI 1) dX8_save_45 (by decide) ?_
          refine r_isub C dX8_save_46 ?_
          refine r_topi (by decide : nI 6 - nI 1 = nI 5) ?_
          refine r_put C (M2 := (mI (mA M 137 (shf (M.1 137) 330)) 135 1 (nI 5))) (Cn := RX8) (T := TX8) (N := 18) (id := 135) (by decide) inw_X8 tyX8_ok nmX8 rfl rfl 1 (by decide) rfl fl_X8_45 rfl rfl (rfl) (Nat.le_of_ble_eq_true rfl) (fun j hj => ⟨mI_ne _ hj, rfl⟩) rfl dX8_save_47 ?_
          refine r_iconst C (nI 0) dX8_save_50 (by decide) ?_
          refine r_istore_n C [(1, .int (nI 0)), (0, .ref (ad 135))] dX8_save_51 rfl (by decide) rfl ?_
          have Lp : ∀ (f k : Nat), 55 + 1 ≤ k + f → k ≤ 55 → VV l D cs ad 2 κ 0 (mA (mI (mA M 137 (shf (M.1 137) 330)) 135 1 (nI 5)) 137 (va_cpy (M.1 136) (shf (M.1 137) 330) 0 275 k)) 52 [(1, .int (nI k)), (0, .ref (ad 135))] [] := by
            intro f
            induction f with
            | zero => intro k hk1 hk2; exact absurd hk1 (by omega)
            | succ f ih =>
              intro k hk1 hk2
              refine r_iload_n C dX8_save_52 rfl 0 rfl ?_
              refine r_bipush C (nI 55) dX8_save_53 (by decide) ?_
              refine r_icmpN_ge C 84 dX8_save_55 (by decide) (by omega) (by omega) (fun h55 => ?_) (fun h55 => ?_)
              ·
                have hk9 : 55 = k := by omega
                subst hk9
                refine r_aload_n C dX8_save_84 rfl 1 rfl ?_
                refine r_dup C dX8_save_85 rfl ?_
                refine r_get C (Cn := RX8) (T := TX8) (N := 18) (id := 135) (by decide) inw_X8 rfl rfl 1 (by decide) rfl fl_X8_45 rfl dX8_save_86 ?_
                refine r_topi (w := nI 5) (rfl) ?_
                refine r_iconst C (nI 1) dX8_save_89 (by decide) ?_
                refine r_iadd C dX8_save_90 ?_
                refine r_topi ((by decide : nI 5 + nI 1 = nI 6)) ?_
                refine r_put C (M2 := (mI (mA (mI (mA M 137 (shf (M.1 137) 330)) 135 1 (nI 5)) 137 (va_cpy (M.1 136) (shf (M.1 137) 330) 0 275 55)) 135 1 (nI 6))) (Cn := RX8) (T := TX8) (N := 18) (id := 135) (by decide) inw_X8 tyX8_ok nmX8 rfl rfl 1 (by decide) rfl fl_X8_45 rfl rfl (rfl) (Nat.le_of_ble_eq_true rfl) (fun j hj => ⟨mI_ne _ hj, rfl⟩) rfl dX8_save_91 ?_
                exact E 0 _ _ _ (Nat.le_of_ble_eq_true rfl) dX8_save_94 (by rw [mAI _ _ _ (by decide), mII, mAI _ _ _ (by decide), mAA]; rfl)
              ·
                refine r_aload_n C dX8_save_58 rfl 1 rfl ?_
                refine r_get C (Cn := RX8) (T := TX8) (N := 18) (id := 135) (by decide) inw_X8 rfl rfl 2 (by decide) rfl fl_X8_13 rfl dX8_save_59 ?_
                refine r_bipush C (nI 55) dX8_save_62 (by decide) ?_
                refine r_aload_n C dX8_save_64 rfl 1 rfl ?_
                refine r_get C (Cn := RX8) (T := TX8) (N := 18) (id := 135) (by decide) inw_X8 rfl rfl 1 (by decide) rfl fl_X8_45 rfl dX8_save_65 ?_
                refine r_topi (w := nI 5) (rfl) ?_
                refine r_imul C dX8_save_68 ?_
                refine r_topi ((by decide : nI 55 * nI 5 = nI 275)) ?_
                refine r_iload_n C dX8_save_69 rfl 0 rfl ?_
                refine r_iadd C dX8_save_70 ?_
                refine r_topi (nI_add 275 k) ?_
                refine r_aload_n C dX8_save_71 rfl 1 rfl ?_
                refine r_get C (Cn := RX8) (T := TX8) (N := 18) (id := 135) (by decide) inw_X8 rfl rfl 0 (by decide) rfl fl_X8_7 rfl dX8_save_72 ?_
                refine r_iload_n C dX8_save_75 rfl 0 rfl ?_
                refine r_iald C (id := 136) (n := 55) (a := k) (by decide) rfl (by omega) (by decide) dX8_save_76 ?_
                refine r_topi (w := (M.1 136 k)) (rfl) ?_
                refine r_iast C (id := 137) (n := 330) (a := 275 + k) (by decide) (fun _ => rfl) (by omega) (by decide) dX8_save_77 ?_
                refine r_iinc C (nI (k + 1)) [(1, .int (nI (k + 1))), (0, .ref (ad 135))] dX8_save_78 (j := 0) rfl (inc_n k 1) (by decide) rfl ?_
                refine r_goto C 52 dX8_save_81 (by decide) ?_
                refine r_lv (lv2 := [(1, .int (nI (k + 1))), (0, .ref (ad 135))]) [0, 1] rfl ?_
                refine r_mem (M2 := (mA (mI (mA M 137 (shf (M.1 137) 330)) 135 1 (nI 5)) 137 (va_cpy (M.1 136) (shf (M.1 137) 330) 0 275 (k + 1)))) (by rw [mIA, cpy_s]) ?_
                exact ih (k + 1) (by omega) (by omega)
          refine r_lv (lv2 := [(1, .int (nI 0)), (0, .ref (ad 135))]) [0, 1] rfl ?_
          refine r_mem (M2 := mA (mI (mA M 137 (shf (M.1 137) 330)) 135 1 (nI 5)) 137 (va_cpy (M.1 136) (shf (M.1 137) 330) 0 275 0)) (mA_id (cpy_0 _ _ _ _)) ?_
          exact Lp (55 + 1) 0 (by omega) (by omega)
        ·
          refine r_aload_n C dX8_save_19 rfl 1 rfl ?_
          refine r_get C (Cn := RX8) (T := TX8) (N := 18) (id := 135) (by decide) inw_X8 rfl rfl 2 (by decide) rfl fl_X8_13 rfl dX8_save_20 ?_
          refine r_iload_n C dX8_save_23 rfl 0 rfl ?_
          refine r_bipush C (nI 55) dX8_save_24 (by decide) ?_
          refine r_isub C dX8_save_26 ?_
          refine r_topi (pk_sub (a := k) (b := 55) (by omega)) ?_
          refine r_aload_n C dX8_save_27 rfl 1 rfl ?_
          refine r_get C (Cn := RX8) (T := TX8) (N := 18) (id := 135) (by decide) inw_X8 rfl rfl 2 (by decide) rfl fl_X8_13 rfl dX8_save_28 ?_
          refine r_iload_n C dX8_save_31 rfl 0 rfl ?_
          refine r_iald C (id := 137) (n := 330) (a := k) (by decide) rfl (by omega) (by decide) dX8_save_32 ?_
          refine r_topi (w := (M.1 137 k)) (by show shf _ k k = _; unfold shf; rw [if_neg (by omega)]) ?_
          refine r_iast C (id := 137) (n := 330) (a := k - 55) (by decide) (fun _ => rfl) (by omega) (by decide) dX8_save_33 ?_
          refine r_iinc C (nI (k + 1)) [(1, .int (nI (k + 1))), (0, .ref (ad 135))] dX8_save_34 (j := 0) rfl (inc_n k 1) (by decide) rfl ?_
          refine r_goto C 12 dX8_save_37 (by decide) ?_
          refine r_lv (lv2 := [(1, .int (nI (k + 1))), (0, .ref (ad 135))]) [0, 1] rfl ?_
          refine r_mem (M2 := mA M 137 (shf (M.1 137) (k + 1))) (by rw [mIA, shf_s hI]) ?_
          exact ih (k + 1) (by omega) (by omega) (by omega)
    refine r_lv (lv2 := [(1, .int (nI 55)), (0, .ref (ad 135))]) [0, 1] rfl ?_
    refine r_mem (M2 := mA M 137 (shf (M.1 137) 55)) (mA_id (shf_0 _)) ?_
    exact Lq (330 + 1) 55 (by omega) (by omega) (by omega)
theorem c_X8_save (l : Launch) (D : va_G) (cs : Nat → ClassId) (ad : Nat → Nat) (M : Mm) (s : Nat) (hs : M.1 135 1 = nI s) (hs6 : s ≤ 6) : ∀ sz : Nat, Met l yX8_save (.code yX8_save cX8_save 2 none :: TT) { frames := 0, cells := 0, slots := 0, locals := 0 } (va_Pc [.ref (ad 135)] (fun U9 => U9.heap.size = sz ∧ wB D cs ad (fA ad sz) M U9)) (va_Qv (fun M2 => M2 = saveM M s) (wB D cs ad (fA ad sz)) (fA ad sz)) 0 0 (fA ad sz) := by
  rcases Nat.lt_or_ge s 6 with q | q
  · exact c_X8_saveL l D cs ad M s hs q
  · obtain rfl : s = 6 := by omega
    exact c_X8_save6 l D cs ad M hs
set_option maxRecDepth 100000 in
set_option maxHeartbeats 4000000 in
theorem c_X8_empties (l : Launch) (D : va_G) (cs : Nat → ClassId) (ad : Nat → Nat) (M : Mm) (a b : Nat) (ha : a ≤ 8) (hb : b ≤ 4) : ∀ sz : Nat, Met l yX8_empties (.code yX8_empties cX8_empties 4 none :: TT) { frames := 0, cells := 0, slots := 0, locals := 0 } (va_Pc [.ref (ad 135), .int (nI a), .int (nI b)] (fun U9 => U9.heap.size = sz ∧ wB D cs ad (fA ad sz) M U9)) (va_Qv (fun M2 => M2 = mA M 136 (emR (M.1 136) a b)) (wB D cs ad (fA ad sz)) (fA ad sz)) 0 0 (fA ad sz) := by
  refine st_V (by decide) (Nat.le_of_ble_eq_true rfl) (fun κ C E => ?_)
  refine r_lv (lv2 := [(0, .ref (ad 135)), (1, .int (nI a)), (2, .int (nI b))]) [0, 1, 2] rfl ?_
  refine r_iconst C (nI 0) dX8_empties_0 (by decide) ?_
  refine r_istore_n C [(3, .int (nI 0)), (0, .ref (ad 135)), (1, .int (nI a)), (2, .int (nI b))] dX8_empties_1 rfl (by decide) rfl ?_
  have Lp : ∀ (f k : Nat), 54 + 1 ≤ k + f → k ≤ 54 → VV l D cs ad 4 κ 0 (mA M 136 (emA (M.1 136) k)) 2 [(3, .int (nI k)), (0, .ref (ad 135)), (1, .int (nI a)), (2, .int (nI b))] [] := by
    intro f
    induction f with
    | zero => intro k hk1 hk2; exact absurd hk1 (by omega)
    | succ f ih =>
      intro k hk1 hk2
      refine r_iload_n C dX8_empties_2 rfl 0 rfl ?_
      refine r_bipush C (nI 54) dX8_empties_3 (by decide) ?_
      refine r_icmpN_ge C 21 dX8_empties_5 (by decide) (by omega) (by omega) (fun h5 => ?_) (fun h5 => ?_)
      ·
        have hk9 : 54 = k := by omega
        subst hk9
        refine r_aload_n C dX8_empties_21 rfl 1 rfl ?_
        refine r_get C (Cn := RX8) (T := TX8) (N := 18) (id := 135) (by decide) inw_X8 rfl rfl 0 (by decide) rfl fl_X8_7 rfl dX8_empties_22 ?_
        refine r_iconst C (nI 0) dX8_empties_25 (by decide) ?_
        refine r_iload_n C dX8_empties_26 rfl 2 rfl ?_
        refine r_iast C (id := 136) (n := 55) (a := 0) (by decide) (fun _ => rfl) (by decide) (by decide) dX8_empties_27 ?_
        refine r_aload_n C dX8_empties_28 rfl 1 rfl ?_
        refine r_get C (Cn := RX8) (T := TX8) (N := 18) (id := 135) (by decide) inw_X8 rfl rfl 0 (by decide) rfl fl_X8_7 rfl dX8_empties_29 ?_
        refine r_iconst C (nI 1) dX8_empties_32 (by decide) ?_
        refine r_iload_n C dX8_empties_33 rfl 3 rfl ?_
        refine r_iast C (id := 136) (n := 55) (a := 1) (by decide) (fun _ => rfl) (by decide) (by decide) dX8_empties_34 ?_
        refine r_iconst C (nI 0) dX8_empties_35 (by decide) ?_
        refine r_istore_n C [(3, .int (nI 0)), (0, .ref (ad 135)), (1, .int (nI a)), (2, .int (nI b))] dX8_empties_36 rfl (by decide) rfl ?_
        have Lq : ∀ (f k : Nat), a + 1 ≤ k + f → k ≤ a → VV l D cs ad 4 κ 0 (mA M 136 (emB (M.1 136) a b k)) 37 [(3, .int (nI k)), (0, .ref (ad 135)), (1, .int (nI a)), (2, .int (nI b))] [] := by
          intro f
          induction f with
          | zero => intro k hk1 hk2; exact absurd hk1 (by omega)
          | succ f ih =>
            intro k hk1 hk2
            refine r_iload_n C dX8_empties_37 rfl 0 rfl ?_
            refine r_iload_n C dX8_empties_38 rfl 2 rfl ?_
            refine r_icmpN_ge C 57 dX8_empties_39 (by decide) (by omega) (by omega) (fun h39 => ?_) (fun h39 => ?_)
            ·
              have hk9 : a = k := by omega
              subst hk9
              exact E 0 _ _ _ (Nat.le_of_ble_eq_true rfl) dX8_empties_57 (rfl)
            ·
              refine r_aload_n C dX8_empties_42 rfl 1 rfl ?_
              refine r_get C (Cn := RX8) (T := TX8) (N := 18) (id := 135) (by decide) inw_X8 rfl rfl 0 (by decide) rfl fl_X8_7 rfl dX8_empties_43 ?_
              refine r_iconst C (nI 2) dX8_empties_46 (by decide) ?_
              refine r_iload_n C dX8_empties_47 rfl 0 rfl ?_
              refine r_iadd C dX8_empties_48 ?_
              refine r_topi (nI_add 2 k) ?_
              refine r_iconst C (nI 1) dX8_empties_49 (by decide) ?_
              refine r_iast C (id := 136) (n := 55) (a := 2 + k) (by decide) (fun _ => rfl) (by omega) (by decide) dX8_empties_50 ?_
              refine r_iinc C (nI (k + 1)) [(3, .int (nI (k + 1))), (0, .ref (ad 135)), (1, .int (nI a)), (2, .int (nI b))] dX8_empties_51 (j := 0) rfl (inc_n k 1) (by decide) rfl ?_
              refine r_goto C 37 dX8_empties_54 (by decide) ?_
              refine r_lv (lv2 := [(3, .int (nI (k + 1))), (0, .ref (ad 135)), (1, .int (nI a)), (2, .int (nI b))]) [0, 1, 2, 3] rfl ?_
              refine r_mem (M2 := mA M 136 (emB (M.1 136) a b (k + 1))) (by rw [mIA, emB_s]) ?_
              exact ih (k + 1) (by omega) (by omega)
        refine r_lv (lv2 := [(3, .int (nI 0)), (0, .ref (ad 135)), (1, .int (nI a)), (2, .int (nI b))]) [0, 1, 2, 3] rfl ?_
        refine r_mem (M2 := mA M 136 (emB (M.1 136) a b 0)) (by rw [mIA, mIA, emB_0]) ?_
        exact Lq (a + 1) 0 (by omega) (by omega)
      ·
        refine r_aload_n C dX8_empties_8 rfl 1 rfl ?_
        refine r_get C (Cn := RX8) (T := TX8) (N := 18) (id := 135) (by decide) inw_X8 rfl rfl 0 (by decide) rfl fl_X8_7 rfl dX8_empties_9 ?_
        refine r_iload_n C dX8_empties_12 rfl 0 rfl ?_
        refine r_iconst C (nI 0) dX8_empties_13 (by decide) ?_
        refine r_iast C (id := 136) (n := 55) (a := k) (by decide) (fun _ => rfl) (by omega) (by decide) dX8_empties_14 ?_
        refine r_iinc C (nI (k + 1)) [(3, .int (nI (k + 1))), (0, .ref (ad 135)), (1, .int (nI a)), (2, .int (nI b))] dX8_empties_15 (j := 0) rfl (inc_n k 1) (by decide) rfl ?_
        refine r_goto C 2 dX8_empties_18 (by decide) ?_
        refine r_lv (lv2 := [(3, .int (nI (k + 1))), (0, .ref (ad 135)), (1, .int (nI a)), (2, .int (nI b))]) [0, 1, 2, 3] rfl ?_
        refine r_mem (M2 := mA M 136 (emA (M.1 136) (k + 1))) (by rw [mIA, emA_s]) ?_
        exact ih (k + 1) (by omega) (by omega)
  refine r_lv (lv2 := [(3, .int (nI 0)), (0, .ref (ad 135)), (1, .int (nI a)), (2, .int (nI b))]) [0, 1, 2, 3] rfl ?_
  refine r_mem (M2 := mA M 136 (emA (M.1 136) 0)) (mA_id (emA_0 _)) ?_
  exact Lp (54 + 1) 0 (by omega) (by omega)
set_option maxRecDepth 100000 in
set_option maxHeartbeats 4000000 in
theorem c_X8_joins (l : Launch) (D : va_G) (cs : Nat → ClassId) (ad : Nat → Nat) (M : Mm) (a b : Nat) (i : Bool) (ha : a < 8) (hb : b < 8) (hab : a ≠ b) : ∀ sz : Nat, Met l yX8_joins (.code yX8_joins cX8_joins 4 none :: TT) { frames := 0, cells := 0, slots := 0, locals := 0 } (va_Pc [.ref (ad 135), .int (nI a), .int (nI b), .int (bI i)] (fun U9 => U9.heap.size = sz ∧ wB D cs ad (fA ad sz) M U9)) (va_Qv (fun M2 => M2 = mA M 136 (joR (M.1 136) a b i)) (wB D cs ad (fA ad sz)) (fA ad sz)) 0 0 (fA ad sz) := by
  refine st_V (by decide) (Nat.le_of_ble_eq_true rfl) (fun κ C E => ?_)
  refine r_lv (lv2 := [(0, .ref (ad 135)), (1, .int (nI a)), (2, .int (nI b)), (3, .int (bI i))]) [0, 1, 2, 3] rfl ?_
  refine r_aload_n C dX8_joins_0 rfl 0 rfl ?_
  refine r_get C (Cn := RX8) (T := TX8) (N := 18) (id := 135) (by decide) inw_X8 rfl rfl 0 (by decide) rfl fl_X8_7 rfl dX8_joins_1 ?_
  refine r_bipush C (nI 10) dX8_joins_4 (by decide) ?_
  refine r_iload_n C dX8_joins_6 rfl 1 rfl ?_
  refine r_iadd C dX8_joins_7 ?_
  refine r_topi (nI_add 10 a) ?_
  refine r_aload_n C dX8_joins_8 rfl 0 rfl ?_
  refine r_get C (Cn := RX8) (T := TX8) (N := 18) (id := 135) (by decide) inw_X8 rfl rfl 0 (by decide) rfl fl_X8_7 rfl dX8_joins_9 ?_
  refine r_bipush C (nI 10) dX8_joins_12 (by decide) ?_
  refine r_iload_n C dX8_joins_14 rfl 1 rfl ?_
  refine r_iadd C dX8_joins_15 ?_
  refine r_topi (nI_add 10 a) ?_
  refine r_iald C (id := 136) (n := 55) (a := 10 + a) (by decide) rfl (by omega) (by decide) dX8_joins_16 ?_
  refine r_iconst C (nI 1) dX8_joins_17 (by decide) ?_
  refine r_iload_n C dX8_joins_18 rfl 2 rfl ?_
  refine r_ishl C dX8_joins_19 ?_
  refine r_topi (w := s1 b) rfl ?_
  refine r_iconst C ((-1)) dX8_joins_20 (by decide) ?_
  refine r_ixor C dX8_joins_21 ?_
  refine r_topi (w := ntI (s1 b)) rfl ?_
  refine r_iand C dX8_joins_22 ?_
  refine r_iload_n C dX8_joins_23 rfl 3 rfl ?_
  refine r_ifB_eq C 33 dX8_joins_24 (by decide) (fun h24 => ?_) (fun h24 => ?_)
  ·
    refine r_iconst C (nI 0) dX8_joins_33 (by decide) ?_
    refine r_topi (w := (if i = true then s1 b else nI 0)) (by simp [h24]) ?_
    refine r_ior C dX8_joins_34 ?_
    refine r_iast C (id := 136) (n := 55) (a := 10 + a) (by decide) (fun _ => rfl) (by omega) (by decide) dX8_joins_35 ?_
    refine r_aload_n C dX8_joins_36 rfl 0 rfl ?_
    refine r_get C (Cn := RX8) (T := TX8) (N := 18) (id := 135) (by decide) inw_X8 rfl rfl 0 (by decide) rfl fl_X8_7 rfl dX8_joins_37 ?_
    refine r_bipush C (nI 10) dX8_joins_40 (by decide) ?_
    refine r_iload_n C dX8_joins_42 rfl 2 rfl ?_
    refine r_iadd C dX8_joins_43 ?_
    refine r_topi (nI_add 10 b) ?_
    refine r_aload_n C dX8_joins_44 rfl 0 rfl ?_
    refine r_get C (Cn := RX8) (T := TX8) (N := 18) (id := 135) (by decide) inw_X8 rfl rfl 0 (by decide) rfl fl_X8_7 rfl dX8_joins_45 ?_
    refine r_bipush C (nI 10) dX8_joins_48 (by decide) ?_
    refine r_iload_n C dX8_joins_50 rfl 2 rfl ?_
    refine r_iadd C dX8_joins_51 ?_
    refine r_topi (nI_add 10 b) ?_
    refine r_iald C (id := 136) (n := 55) (a := 10 + b) (by decide) rfl (by omega) (by decide) dX8_joins_52 ?_
    refine r_topi (w := (M.1 136 (10 + b))) (by rw [mI_eq]; exact upd_n _ _ (by omega)) ?_
    refine r_iconst C (nI 1) dX8_joins_53 (by decide) ?_
    refine r_iload_n C dX8_joins_54 rfl 1 rfl ?_
    refine r_ishl C dX8_joins_55 ?_
    refine r_topi (w := s1 a) rfl ?_
    refine r_iconst C ((-1)) dX8_joins_56 (by decide) ?_
    refine r_ixor C dX8_joins_57 ?_
    refine r_topi (w := ntI (s1 a)) rfl ?_
    refine r_iand C dX8_joins_58 ?_
    refine r_iload_n C dX8_joins_59 rfl 3 rfl ?_
    refine r_ifB_eq C 69 dX8_joins_60 (by decide) (fun h60 => ?_) (fun h60 => ?_)
    ·
      refine r_iconst C (nI 0) dX8_joins_69 (by decide) ?_
      refine r_topi (w := (if i = true then s1 a else nI 0)) (by simp [h24, h60]) ?_
      refine r_ior C dX8_joins_70 ?_
      refine r_iast C (id := 136) (n := 55) (a := 10 + b) (by decide) (fun _ => rfl) (by omega) (by decide) dX8_joins_71 ?_
      exact E 0 _ _ _ (Nat.le_of_ble_eq_true rfl) dX8_joins_72 (by show _ = _; rw [mI_A M 136 (10 + a), mIA]; rfl)
    · exact absurd (h60.symm.trans h24) (by decide)
  ·
    refine r_iconst C (nI 1) dX8_joins_27 (by decide) ?_
    refine r_iload_n C dX8_joins_28 rfl 2 rfl ?_
    refine r_ishl C dX8_joins_29 ?_
    refine r_topi (w := s1 b) rfl ?_
    refine r_goto C 34 dX8_joins_30 (by decide) ?_
    refine r_topi (w := (if i = true then s1 b else nI 0)) (by simp [h24]) ?_
    refine r_ior C dX8_joins_34 ?_
    refine r_iast C (id := 136) (n := 55) (a := 10 + a) (by decide) (fun _ => rfl) (by omega) (by decide) dX8_joins_35 ?_
    refine r_aload_n C dX8_joins_36 rfl 0 rfl ?_
    refine r_get C (Cn := RX8) (T := TX8) (N := 18) (id := 135) (by decide) inw_X8 rfl rfl 0 (by decide) rfl fl_X8_7 rfl dX8_joins_37 ?_
    refine r_bipush C (nI 10) dX8_joins_40 (by decide) ?_
    refine r_iload_n C dX8_joins_42 rfl 2 rfl ?_
    refine r_iadd C dX8_joins_43 ?_
    refine r_topi (nI_add 10 b) ?_
    refine r_aload_n C dX8_joins_44 rfl 0 rfl ?_
    refine r_get C (Cn := RX8) (T := TX8) (N := 18) (id := 135) (by decide) inw_X8 rfl rfl 0 (by decide) rfl fl_X8_7 rfl dX8_joins_45 ?_
    refine r_bipush C (nI 10) dX8_joins_48 (by decide) ?_
    refine r_iload_n C dX8_joins_50 rfl 2 rfl ?_
    refine r_iadd C dX8_joins_51 ?_
    refine r_topi (nI_add 10 b) ?_
    refine r_iald C (id := 136) (n := 55) (a := 10 + b) (by decide) rfl (by omega) (by decide) dX8_joins_52 ?_
    refine r_topi (w := (M.1 136 (10 + b))) (by rw [mI_eq]; exact upd_n _ _ (by omega)) ?_
    refine r_iconst C (nI 1) dX8_joins_53 (by decide) ?_
    refine r_iload_n C dX8_joins_54 rfl 1 rfl ?_
    refine r_ishl C dX8_joins_55 ?_
    refine r_topi (w := s1 a) rfl ?_
    refine r_iconst C ((-1)) dX8_joins_56 (by decide) ?_
    refine r_ixor C dX8_joins_57 ?_
    refine r_topi (w := ntI (s1 a)) rfl ?_
    refine r_iand C dX8_joins_58 ?_
    refine r_iload_n C dX8_joins_59 rfl 3 rfl ?_
    refine r_ifB_eq C 69 dX8_joins_60 (by decide) (fun h60 => ?_) (fun h60 => ?_)
    · exact absurd (h60.symm.trans h24) (by decide)
    ·
      refine r_iconst C (nI 1) dX8_joins_63 (by decide) ?_
      refine r_iload_n C dX8_joins_64 rfl 1 rfl ?_
      refine r_ishl C dX8_joins_65 ?_
      refine r_topi (w := s1 a) rfl ?_
      refine r_goto C 70 dX8_joins_66 (by decide) ?_
      refine r_topi (w := (if i = true then s1 a else nI 0)) (by simp [h24, h60]) ?_
      refine r_ior C dX8_joins_70 ?_
      refine r_iast C (id := 136) (n := 55) (a := 10 + b) (by decide) (fun _ => rfl) (by omega) (by decide) dX8_joins_71 ?_
      exact E 0 _ _ _ (Nat.le_of_ble_eq_true rfl) dX8_joins_72 (by show _ = _; rw [mI_A M 136 (10 + a), mIA]; rfl)
set_option maxRecDepth 100000 in
set_option maxHeartbeats 4000000 in
theorem c_X8_begin (l : Launch) (D : va_G) (cs : Nat → ClassId) (ad : Nat → Nat) (M : Mm) (n : Nat) (hn : M.1 136 0 = nI n) (hn8 : n ≤ 8) (s : Nat) (hs : M.1 135 1 = nI s) (hs6 : s ≤ 6) (a b : Nat) (ha1 : 1 ≤ a) (ha : a ≤ 8) (hb1 : 1 ≤ b) (hb : b ≤ 4) : ∀ sz : Nat, Met l yX8_begin (.code yX8_begin cX8_begin 4 (some .int) :: TT) { frames := 1, cells := 0, slots := 0, locals := 23 } (va_Pc [.ref (ad 135), .int (nI a), .int (nI b)] (fun U9 => U9.heap.size = sz ∧ wB D cs ad (fA ad sz) M U9)) (va_Qi (fun r M2 => r = nI n ∧ M2 = mA (saveM (mI M 135 7 (nI 0)) s) 136 (emR (M.1 136) a b)) (wB D cs ad (fA ad sz)) (fA ad sz)) 0 0 (fA ad sz) := by
  have w1 : wit (nI a) (nI 1) (nI 8) = true := (wit_iff (by omega) (by omega) (by omega)).mpr ⟨ha1, ha⟩
  have w2 : wit (nI b) (nI 1) (nI 4) = true := (wit_iff (by omega) (by omega) (by omega)).mpr ⟨hb1, hb⟩
  refine st_I (by decide) (Nat.le_of_ble_eq_true rfl) (fun κ C E => ?_)
  refine r_lv (lv2 := [(0, .ref (ad 135)), (1, .int (nI a)), (2, .int (nI b))]) [0, 1, 2] rfl ?_
  refine r_aload_n C dX8_begin_0 rfl 0 rfl ?_
  refine r_iload_n C dX8_begin_1 rfl 1 rfl ?_
  refine r_iconst C (nI 1) dX8_begin_2 (by decide) ?_
  refine r_bipush C (nI 8) dX8_begin_3 (by decide) ?_
  refine r_pcallS_i (nA := 3) C (Nat.le_of_ble_eq_true rfl) [.int (nI a), .int (nI 1), .int (nI 8)] (c_X8_within l D cs ad M (nI a) (nI 1) (nI 8) ) (tt_S ml_X8_48 st_X8_within in_X8 co_X8_within) ⟨rfl, rfl⟩ ⟨rfl, by decide, by decide, by decide⟩ ⟨Nat.le_of_ble_eq_true rfl, Nat.le_of_ble_eq_true rfl⟩ rfl rfl (Nat.le_of_ble_eq_true rfl) dX8_begin_5 ?_
  refine r_ifB_eq C 24 dX8_begin_8 (by decide) (fun h8 => ?_) (fun h8 => ?_)
  · exact absurd (h8.symm.trans w1) (by decide)
  ·
    refine r_iload_n C dX8_begin_11 rfl 2 rfl ?_
    refine r_iconst C (nI 1) dX8_begin_12 (by decide) ?_
    refine r_iconst C (nI 4) dX8_begin_13 (by decide) ?_
    refine r_pcallS_i (nA := 3) C (Nat.le_of_ble_eq_true rfl) [.int (nI b), .int (nI 1), .int (nI 4)] (c_X8_within l D cs ad M (nI b) (nI 1) (nI 4) ) (tt_S ml_X8_48 st_X8_within in_X8 co_X8_within) ⟨rfl, rfl⟩ ⟨rfl, by decide, by decide, by decide⟩ ⟨Nat.le_of_ble_eq_true rfl, Nat.le_of_ble_eq_true rfl⟩ rfl rfl (Nat.le_of_ble_eq_true rfl) dX8_begin_14 ?_
    refine r_ifB_eq C 24 dX8_begin_17 (by decide) (fun h17 => ?_) (fun h17 => ?_)
    · exact absurd (h17.symm.trans w2) (by decide)
    ·
      refine r_iconst C (nI 0) dX8_begin_20 (by decide) ?_
      refine r_goto C 25 dX8_begin_21 (by decide) ?_
      refine r_put C (M2 := (mI M 135 7 (nI 0))) (Cn := RX8) (T := TX8) (N := 18) (id := 135) (by decide) inw_X8 tyX8_ok nmX8 rfl rfl 7 (by decide) rfl fl_X8_41 rfl rfl (rfl) (Nat.le_of_ble_eq_true rfl) (fun j hj => ⟨mI_ne _ hj, rfl⟩) rfl dX8_begin_25 ?_
      refine r_aload_n C dX8_begin_28 rfl 0 rfl ?_
      refine r_get C (Cn := RX8) (T := TX8) (N := 18) (id := 135) (by decide) inw_X8 rfl rfl 7 (by decide) rfl fl_X8_41 rfl dX8_begin_29 ?_
      refine r_topi (w := nI 0) (rfl) ?_
      refine r_if_le C 37 dX8_begin_32 (by decide) (fun h32 => ?_) (fun h32 => ?_)
      ·
        refine r_aload_n C dX8_begin_37 rfl 0 rfl ?_
        refine r_pcallV_v (nA := 0) C (Nat.le_of_ble_eq_true rfl) [] (c_X8_save l D cs ad (mI M 135 7 (nI 0))  s hs hs6) (tt_V ml_X8_110 im_X8_save se_X8_save in_X8 co_X8_save) ⟨rfl, rfl⟩ ⟨rfl, by decide, by decide, by decide⟩ ⟨Nat.le_of_ble_eq_true rfl, Nat.le_of_ble_eq_true rfl⟩ (by decide) rfl rfl rfl rfl rfl (Nat.le_of_ble_eq_true rfl) dX8_begin_38 ?_
        refine r_aload_n C dX8_begin_41 rfl 0 rfl ?_
        refine r_get C (Cn := RX8) (T := TX8) (N := 18) (id := 135) (by decide) inw_X8 rfl rfl 0 (by decide) rfl fl_X8_7 rfl dX8_begin_42 ?_
        refine r_iconst C (nI 0) dX8_begin_45 (by decide) ?_
        refine r_iald C (id := 136) (n := 55) (a := 0) (by decide) rfl (by decide) (by decide) dX8_begin_46 ?_
        refine r_topi (w := (M.1 136 0)) (rfl) ?_
        refine r_topi hn ?_
        refine r_istore_n C [(3, .int (nI n)), (0, .ref (ad 135)), (1, .int (nI a)), (2, .int (nI b))] dX8_begin_47 rfl (by decide) rfl ?_
        refine r_aload_n C dX8_begin_48 rfl 1 rfl ?_
        refine r_iload_n C dX8_begin_49 rfl 2 rfl ?_
        refine r_iload_n C dX8_begin_50 rfl 3 rfl ?_
        refine r_pcallV_v (nA := 2) C (Nat.le_of_ble_eq_true rfl) [.int (nI a), .int (nI b)] (c_X8_empties l D cs ad (saveM (mI M 135 7 (nI 0)) s) a b (by omega) (by omega)) (tt_V ml_X8_37 im_X8_empties se_X8_empties in_X8 co_X8_empties) ⟨rfl, rfl⟩ ⟨rfl, by decide, by decide, by decide⟩ ⟨Nat.le_of_ble_eq_true rfl, Nat.le_of_ble_eq_true rfl⟩ (by decide) rfl rfl rfl rfl rfl (Nat.le_of_ble_eq_true rfl) dX8_begin_51 ?_
        refine r_iload_n C dX8_begin_54 rfl 0 rfl ?_
        exact E 0 _ _ _ _ (Nat.le_of_ble_eq_true rfl) dX8_begin_55 (⟨rfl, rfl⟩)
      · exact absurd h32 (by decide)
set_option maxRecDepth 100000 in
set_option maxHeartbeats 4000000 in
theorem c_X8_beginX (l : Launch) (D : va_G) (cs : Nat → ClassId) (ad : Nat → Nat) (M : Mm) (x y : Int32) (hbad : (wit x (nI 1) (nI 8) && wit y (nI 1) (nI 4)) = false) : ∀ sz : Nat, Met l yX8_begin (.code yX8_begin cX8_begin 4 (some .int) :: TT) { frames := 1, cells := 0, slots := 0, locals := 22 } (va_Pc [.ref (ad 135), .int x, .int y] (fun U9 => U9.heap.size = sz ∧ wB D cs ad (fA ad sz) M U9)) (va_Qi (fun r M2 => r = nI 0 ∧ M2 = mI M 135 7 (nI 1)) (wB D cs ad (fA ad sz)) (fA ad sz)) 0 0 (fA ad sz) := by
  refine st_I (by decide) (Nat.le_of_ble_eq_true rfl) (fun κ C E => ?_)
  refine r_lv (lv2 := [(0, .ref (ad 135)), (1, .int x), (2, .int y)]) [0, 1, 2] rfl ?_
  refine r_aload_n C dX8_begin_0 rfl 0 rfl ?_
  refine r_iload_n C dX8_begin_1 rfl 1 rfl ?_
  refine r_iconst C (nI 1) dX8_begin_2 (by decide) ?_
  refine r_bipush C (nI 8) dX8_begin_3 (by decide) ?_
  refine r_pcallS_i (nA := 3) C (Nat.le_of_ble_eq_true rfl) [.int x, .int (nI 1), .int (nI 8)] (c_X8_within l D cs ad M x (nI 1) (nI 8) ) (tt_S ml_X8_48 st_X8_within in_X8 co_X8_within) ⟨rfl, rfl⟩ ⟨rfl, by decide, by decide, by decide⟩ ⟨Nat.le_of_ble_eq_true rfl, Nat.le_of_ble_eq_true rfl⟩ rfl rfl (Nat.le_of_ble_eq_true rfl) dX8_begin_5 ?_
  refine r_ifB_eq C 24 dX8_begin_8 (by decide) (fun h8 => ?_) (fun h8 => ?_)
  ·
    refine r_iconst C (nI 1) dX8_begin_24 (by decide) ?_
    refine r_put C (M2 := (mI M 135 7 (nI 1))) (Cn := RX8) (T := TX8) (N := 18) (id := 135) (by decide) inw_X8 tyX8_ok nmX8 rfl rfl 7 (by decide) rfl fl_X8_41 rfl rfl (rfl) (Nat.le_of_ble_eq_true rfl) (fun j hj => ⟨mI_ne _ hj, rfl⟩) rfl dX8_begin_25 ?_
    refine r_aload_n C dX8_begin_28 rfl 0 rfl ?_
    refine r_get C (Cn := RX8) (T := TX8) (N := 18) (id := 135) (by decide) inw_X8 rfl rfl 7 (by decide) rfl fl_X8_41 rfl dX8_begin_29 ?_
    refine r_topi (w := nI 1) (rfl) ?_
    refine r_if_le C 37 dX8_begin_32 (by decide) (fun h32 => ?_) (fun h32 => ?_)
    · exact absurd h32 (by decide)
    ·
      refine r_iconst C (nI 0) dX8_begin_35 (by decide) ?_
      exact E 0 _ _ _ _ (Nat.le_of_ble_eq_true rfl) dX8_begin_36 (⟨rfl, rfl⟩)
  ·
    refine r_iload_n C dX8_begin_11 rfl 2 rfl ?_
    refine r_iconst C (nI 1) dX8_begin_12 (by decide) ?_
    refine r_iconst C (nI 4) dX8_begin_13 (by decide) ?_
    refine r_pcallS_i (nA := 3) C (Nat.le_of_ble_eq_true rfl) [.int y, .int (nI 1), .int (nI 4)] (c_X8_within l D cs ad M y (nI 1) (nI 4) ) (tt_S ml_X8_48 st_X8_within in_X8 co_X8_within) ⟨rfl, rfl⟩ ⟨rfl, by decide, by decide, by decide⟩ ⟨Nat.le_of_ble_eq_true rfl, Nat.le_of_ble_eq_true rfl⟩ rfl rfl (Nat.le_of_ble_eq_true rfl) dX8_begin_14 ?_
    refine r_ifB_eq C 24 dX8_begin_17 (by decide) (fun h17 => ?_) (fun h17 => ?_)
    ·
      refine r_iconst C (nI 1) dX8_begin_24 (by decide) ?_
      refine r_put C (M2 := (mI M 135 7 (nI 1))) (Cn := RX8) (T := TX8) (N := 18) (id := 135) (by decide) inw_X8 tyX8_ok nmX8 rfl rfl 7 (by decide) rfl fl_X8_41 rfl rfl (rfl) (Nat.le_of_ble_eq_true rfl) (fun j hj => ⟨mI_ne _ hj, rfl⟩) rfl dX8_begin_25 ?_
      refine r_aload_n C dX8_begin_28 rfl 0 rfl ?_
      refine r_get C (Cn := RX8) (T := TX8) (N := 18) (id := 135) (by decide) inw_X8 rfl rfl 7 (by decide) rfl fl_X8_41 rfl dX8_begin_29 ?_
      refine r_topi (w := nI 1) (rfl) ?_
      refine r_if_le C 37 dX8_begin_32 (by decide) (fun h32 => ?_) (fun h32 => ?_)
      · exact absurd h32 (by decide)
      ·
        refine r_iconst C (nI 0) dX8_begin_35 (by decide) ?_
        exact E 0 _ _ _ _ (Nat.le_of_ble_eq_true rfl) dX8_begin_36 (⟨rfl, rfl⟩)
    ·
      simp [h8, h17] at hbad
set_option maxRecDepth 100000 in
set_option maxHeartbeats 4000000 in
theorem c_X8_join (l : Launch) (D : va_G) (cs : Nat → ClassId) (ad : Nat → Nat) (M : Mm) (n : Nat) (hn : M.1 136 0 = nI n) (hn8 : n ≤ 8) (s : Nat) (hs : M.1 135 1 = nI s) (hs6 : s ≤ 6) (a b : Nat) (i : Bool) (ha : a < n) (hb : b < n) (hab : a ≠ b) : ∀ sz : Nat, Met l yX8_join (.code yX8_join cX8_join 4 (some .int) :: TT) { frames := 2, cells := 0, slots := 0, locals := 44 } (va_Pc [.ref (ad 135), .int (nI a), .int (nI b), .int (bI i)] (fun U9 => U9.heap.size = sz ∧ wB D cs ad (fA ad sz) M U9)) (va_Qi (fun r M2 => r = edz (joR (M.1 136) a b i) n ∧ M2 = mA (saveM (mI M 135 7 (nI 0)) s) 136 (joR (M.1 136) a b i)) (wB D cs ad (fA ad sz)) (fA ad sz)) 0 0 (fA ad sz) := by
  have w1 := wit_n ha (by omega)
  have w2 := wit_n hb (by omega)
  refine st_I (by decide) (Nat.le_of_ble_eq_true rfl) (fun κ C E => ?_)
  refine r_lv (lv2 := [(0, .ref (ad 135)), (1, .int (nI a)), (2, .int (nI b)), (3, .int (bI i))]) [0, 1, 2, 3] rfl ?_
  refine r_aload_n C dX8_join_0 rfl 0 rfl ?_
  refine r_aload_n C dX8_join_1 rfl 0 rfl ?_
  refine r_iload_n C dX8_join_2 rfl 1 rfl ?_
  refine r_pcallV_i (nA := 1) C (Nat.le_of_ble_eq_true rfl) [.int (nI a)] (c_X8_isVertex l D cs ad M (nI a) n hn hn8) (tt_V ml_X8_113 im_X8_isVertex se_X8_isVertex in_X8 co_X8_isVertex) ⟨rfl, rfl⟩ ⟨rfl, by decide, by decide, by decide⟩ ⟨Nat.le_of_ble_eq_true rfl, Nat.le_of_ble_eq_true rfl⟩ (by decide) rfl rfl rfl rfl rfl (Nat.le_of_ble_eq_true rfl) dX8_join_3 ?_
  refine r_ifB_eq C 17 dX8_join_6 (by decide) (fun h6 => ?_) (fun h6 => ?_)
  · exact absurd (h6.symm.trans w1) (by decide)
  ·
    refine r_aload_n C dX8_join_9 rfl 0 rfl ?_
    refine r_iload_n C dX8_join_10 rfl 2 rfl ?_
    refine r_pcallV_i (nA := 1) C (Nat.le_of_ble_eq_true rfl) [.int (nI b)] (c_X8_isVertex l D cs ad M (nI b) n hn hn8) (tt_V ml_X8_113 im_X8_isVertex se_X8_isVertex in_X8 co_X8_isVertex) ⟨rfl, rfl⟩ ⟨rfl, by decide, by decide, by decide⟩ ⟨Nat.le_of_ble_eq_true rfl, Nat.le_of_ble_eq_true rfl⟩ (by decide) rfl rfl rfl rfl rfl (Nat.le_of_ble_eq_true rfl) dX8_join_11 ?_
    refine r_ifB_ne C 21 dX8_join_14 (by decide) (fun h14 => ?_) (fun h14 => ?_)
    ·
      refine r_iload_n C dX8_join_21 rfl 1 rfl ?_
      refine r_iload_n C dX8_join_22 rfl 2 rfl ?_
      refine r_icmpN_ne C 30 dX8_join_23 (by decide) (by omega) (by omega) (fun h23 => ?_) (fun h23 => ?_)
      ·
        refine r_iconst C (nI 0) dX8_join_30 (by decide) ?_
        refine r_put C (M2 := (mI M 135 7 (nI 0))) (Cn := RX8) (T := TX8) (N := 18) (id := 135) (by decide) inw_X8 tyX8_ok nmX8 rfl rfl 7 (by decide) rfl fl_X8_41 rfl rfl (rfl) (Nat.le_of_ble_eq_true rfl) (fun j hj => ⟨mI_ne _ hj, rfl⟩) rfl dX8_join_31 ?_
        refine r_aload_n C dX8_join_34 rfl 0 rfl ?_
        refine r_get C (Cn := RX8) (T := TX8) (N := 18) (id := 135) (by decide) inw_X8 rfl rfl 7 (by decide) rfl fl_X8_41 rfl dX8_join_35 ?_
        refine r_topi (w := nI 0) (rfl) ?_
        refine r_if_le C 43 dX8_join_38 (by decide) (fun h38 => ?_) (fun h38 => ?_)
        ·
          refine r_aload_n C dX8_join_43 rfl 0 rfl ?_
          refine r_pcallV_v (nA := 0) C (Nat.le_of_ble_eq_true rfl) [] (c_X8_save l D cs ad (mI M 135 7 (nI 0))  s hs hs6) (tt_V ml_X8_110 im_X8_save se_X8_save in_X8 co_X8_save) ⟨rfl, rfl⟩ ⟨rfl, by decide, by decide, by decide⟩ ⟨Nat.le_of_ble_eq_true rfl, Nat.le_of_ble_eq_true rfl⟩ (by decide) rfl rfl rfl rfl rfl (Nat.le_of_ble_eq_true rfl) dX8_join_44 ?_
          refine r_aload_n C dX8_join_47 rfl 0 rfl ?_
          refine r_iload_n C dX8_join_48 rfl 1 rfl ?_
          refine r_iload_n C dX8_join_49 rfl 2 rfl ?_
          refine r_iload_n C dX8_join_50 rfl 3 rfl ?_
          refine r_pcallV_v (nA := 3) C (Nat.le_of_ble_eq_true rfl) [.int (nI a), .int (nI b), .int (bI i)] (c_X8_joins l D cs ad (saveM (mI M 135 7 (nI 0)) s) a b i (by omega) (by omega) (by omega)) (tt_V ml_X8_116 im_X8_joins se_X8_joins in_X8 co_X8_joins) ⟨rfl, rfl⟩ ⟨rfl, by decide, by decide, by decide⟩ ⟨Nat.le_of_ble_eq_true rfl, Nat.le_of_ble_eq_true rfl⟩ (by decide) rfl rfl rfl rfl rfl (Nat.le_of_ble_eq_true rfl) dX8_join_51 ?_
          refine r_aload_n C dX8_join_54 rfl 0 rfl ?_
          refine r_pcallV_i (nA := 0) C (Nat.le_of_ble_eq_true rfl) [] (c_X8_edges l D cs ad (mA (saveM (mI M 135 7 (nI 0)) s) 136 (joR (M.1 136) a b i))  n (by show joR (M.1 136) a b i 0 = nI n; unfold joR upd; rw [if_neg (by omega), if_neg (by omega)]; exact hn) hn8) (tt_V ml_X8_120 im_X8_edges se_X8_edges in_X8 co_X8_edges) ⟨rfl, rfl⟩ ⟨rfl, by decide, by decide, by decide⟩ ⟨Nat.le_of_ble_eq_true rfl, Nat.le_of_ble_eq_true rfl⟩ (by decide) rfl rfl rfl rfl rfl (Nat.le_of_ble_eq_true rfl) dX8_join_55 ?_
          refine r_topi (w := (edz ((mA (saveM (mI M 135 7 (nI 0)) s) 136 (joR (M.1 136) a b i)).1 136) n)) rfl ?_
          exact E 0 _ _ _ _ (Nat.le_of_ble_eq_true rfl) dX8_join_58 (⟨rfl, rfl⟩)
        · exact absurd h38 (by decide)
      · exact absurd h23 hab
    · exact absurd (h14.symm.trans w2) (by decide)
set_option maxRecDepth 100000 in
set_option maxHeartbeats 4000000 in
theorem c_X8_joinX (l : Launch) (D : va_G) (cs : Nat → ClassId) (ad : Nat → Nat) (M : Mm) (n : Nat) (hn : M.1 136 0 = nI n) (hn8 : n ≤ 8) (x y : Int32) (i : Bool) (hbad : (wit x (nI 0) (nI n - nI 1) && wit y (nI 0) (nI n - nI 1)) = false) : ∀ sz : Nat, Met l yX8_join (.code yX8_join cX8_join 4 (some .int) :: TT) { frames := 2, cells := 0, slots := 0, locals := 43 } (va_Pc [.ref (ad 135), .int x, .int y, .int (bI i)] (fun U9 => U9.heap.size = sz ∧ wB D cs ad (fA ad sz) M U9)) (va_Qi (fun r M2 => r = nI 0 ∧ M2 = mI M 135 7 (nI 1)) (wB D cs ad (fA ad sz)) (fA ad sz)) 0 0 (fA ad sz) := by
  refine st_I (by decide) (Nat.le_of_ble_eq_true rfl) (fun κ C E => ?_)
  refine r_lv (lv2 := [(0, .ref (ad 135)), (1, .int x), (2, .int y), (3, .int (bI i))]) [0, 1, 2, 3] rfl ?_
  refine r_aload_n C dX8_join_0 rfl 0 rfl ?_
  refine r_aload_n C dX8_join_1 rfl 0 rfl ?_
  refine r_iload_n C dX8_join_2 rfl 1 rfl ?_
  refine r_pcallV_i (nA := 1) C (Nat.le_of_ble_eq_true rfl) [.int x] (c_X8_isVertex l D cs ad M x n hn hn8) (tt_V ml_X8_113 im_X8_isVertex se_X8_isVertex in_X8 co_X8_isVertex) ⟨rfl, rfl⟩ ⟨rfl, by decide, by decide, by decide⟩ ⟨Nat.le_of_ble_eq_true rfl, Nat.le_of_ble_eq_true rfl⟩ (by decide) rfl rfl rfl rfl rfl (Nat.le_of_ble_eq_true rfl) dX8_join_3 ?_
  refine r_ifB_eq C 17 dX8_join_6 (by decide) (fun h6 => ?_) (fun h6 => ?_)
  ·
    refine r_iconst C (nI 1) dX8_join_17 (by decide) ?_
    refine r_goto C 31 dX8_join_18 (by decide) ?_
    refine r_put C (M2 := (mI M 135 7 (nI 1))) (Cn := RX8) (T := TX8) (N := 18) (id := 135) (by decide) inw_X8 tyX8_ok nmX8 rfl rfl 7 (by decide) rfl fl_X8_41 rfl rfl (rfl) (Nat.le_of_ble_eq_true rfl) (fun j hj => ⟨mI_ne _ hj, rfl⟩) rfl dX8_join_31 ?_
    refine r_aload_n C dX8_join_34 rfl 0 rfl ?_
    refine r_get C (Cn := RX8) (T := TX8) (N := 18) (id := 135) (by decide) inw_X8 rfl rfl 7 (by decide) rfl fl_X8_41 rfl dX8_join_35 ?_
    refine r_topi (w := nI 1) (rfl) ?_
    refine r_if_le C 43 dX8_join_38 (by decide) (fun h38 => ?_) (fun h38 => ?_)
    · exact absurd h38 (by decide)
    ·
      refine r_iconst C (nI 0) dX8_join_41 (by decide) ?_
      exact E 0 _ _ _ _ (Nat.le_of_ble_eq_true rfl) dX8_join_42 (⟨rfl, rfl⟩)
  ·
    refine r_aload_n C dX8_join_9 rfl 0 rfl ?_
    refine r_iload_n C dX8_join_10 rfl 2 rfl ?_
    refine r_pcallV_i (nA := 1) C (Nat.le_of_ble_eq_true rfl) [.int y] (c_X8_isVertex l D cs ad M y n hn hn8) (tt_V ml_X8_113 im_X8_isVertex se_X8_isVertex in_X8 co_X8_isVertex) ⟨rfl, rfl⟩ ⟨rfl, by decide, by decide, by decide⟩ ⟨Nat.le_of_ble_eq_true rfl, Nat.le_of_ble_eq_true rfl⟩ (by decide) rfl rfl rfl rfl rfl (Nat.le_of_ble_eq_true rfl) dX8_join_11 ?_
    refine r_ifB_ne C 21 dX8_join_14 (by decide) (fun h14 => ?_) (fun h14 => ?_)
    ·
      simp [h6, h14] at hbad
    ·
      refine r_iconst C (nI 1) dX8_join_17 (by decide) ?_
      refine r_goto C 31 dX8_join_18 (by decide) ?_
      refine r_put C (M2 := (mI M 135 7 (nI 1))) (Cn := RX8) (T := TX8) (N := 18) (id := 135) (by decide) inw_X8 tyX8_ok nmX8 rfl rfl 7 (by decide) rfl fl_X8_41 rfl rfl (rfl) (Nat.le_of_ble_eq_true rfl) (fun j hj => ⟨mI_ne _ hj, rfl⟩) rfl dX8_join_31 ?_
      refine r_aload_n C dX8_join_34 rfl 0 rfl ?_
      refine r_get C (Cn := RX8) (T := TX8) (N := 18) (id := 135) (by decide) inw_X8 rfl rfl 7 (by decide) rfl fl_X8_41 rfl dX8_join_35 ?_
      refine r_topi (w := nI 1) (rfl) ?_
      refine r_if_le C 43 dX8_join_38 (by decide) (fun h38 => ?_) (fun h38 => ?_)
      · exact absurd h38 (by decide)
      ·
        refine r_iconst C (nI 0) dX8_join_41 (by decide) ?_
        exact E 0 _ _ _ _ (Nat.le_of_ble_eq_true rfl) dX8_join_42 (⟨rfl, rfl⟩)
set_option maxRecDepth 100000 in
set_option maxHeartbeats 4000000 in
theorem c_X8_joinY (l : Launch) (D : va_G) (cs : Nat → ClassId) (ad : Nat → Nat) (M : Mm) (n : Nat) (hn : M.1 136 0 = nI n) (hn8 : n ≤ 8) (a : Nat) (i : Bool) (ha : a < n) : ∀ sz : Nat, Met l yX8_join (.code yX8_join cX8_join 4 (some .int) :: TT) { frames := 2, cells := 0, slots := 0, locals := 43 } (va_Pc [.ref (ad 135), .int (nI a), .int (nI a), .int (bI i)] (fun U9 => U9.heap.size = sz ∧ wB D cs ad (fA ad sz) M U9)) (va_Qi (fun r M2 => r = nI 0 ∧ M2 = mI M 135 7 (nI 2)) (wB D cs ad (fA ad sz)) (fA ad sz)) 0 0 (fA ad sz) := by
  refine st_I (by decide) (Nat.le_of_ble_eq_true rfl) (fun κ C E => ?_)
  refine r_lv (lv2 := [(0, .ref (ad 135)), (1, .int (nI a)), (2, .int (nI a)), (3, .int (bI i))]) [0, 1, 2, 3] rfl ?_
  refine r_aload_n C dX8_join_0 rfl 0 rfl ?_
  refine r_aload_n C dX8_join_1 rfl 0 rfl ?_
  refine r_iload_n C dX8_join_2 rfl 1 rfl ?_
  refine r_pcallV_i (nA := 1) C (Nat.le_of_ble_eq_true rfl) [.int (nI a)] (c_X8_isVertex l D cs ad M (nI a) n hn hn8) (tt_V ml_X8_113 im_X8_isVertex se_X8_isVertex in_X8 co_X8_isVertex) ⟨rfl, rfl⟩ ⟨rfl, by decide, by decide, by decide⟩ ⟨Nat.le_of_ble_eq_true rfl, Nat.le_of_ble_eq_true rfl⟩ (by decide) rfl rfl rfl rfl rfl (Nat.le_of_ble_eq_true rfl) dX8_join_3 ?_
  refine r_ifB_eq C 17 dX8_join_6 (by decide) (fun h6 => ?_) (fun h6 => ?_)
  · exact absurd (h6.symm.trans (wit_n ha (by omega))) (by decide)
  ·
    refine r_aload_n C dX8_join_9 rfl 0 rfl ?_
    refine r_iload_n C dX8_join_10 rfl 2 rfl ?_
    refine r_pcallV_i (nA := 1) C (Nat.le_of_ble_eq_true rfl) [.int (nI a)] (c_X8_isVertex l D cs ad M (nI a) n hn hn8) (tt_V ml_X8_113 im_X8_isVertex se_X8_isVertex in_X8 co_X8_isVertex) ⟨rfl, rfl⟩ ⟨rfl, by decide, by decide, by decide⟩ ⟨Nat.le_of_ble_eq_true rfl, Nat.le_of_ble_eq_true rfl⟩ (by decide) rfl rfl rfl rfl rfl (Nat.le_of_ble_eq_true rfl) dX8_join_11 ?_
    refine r_ifB_ne C 21 dX8_join_14 (by decide) (fun h14 => ?_) (fun h14 => ?_)
    ·
      refine r_iload_n C dX8_join_21 rfl 1 rfl ?_
      refine r_iload_n C dX8_join_22 rfl 2 rfl ?_
      refine r_icmpN_ne C 30 dX8_join_23 (by decide) (by omega) (by omega) (fun h23 => ?_) (fun h23 => ?_)
      · exact absurd rfl h23
      ·
        refine r_iconst C (nI 2) dX8_join_26 (by decide) ?_
        refine r_goto C 31 dX8_join_27 (by decide) ?_
        refine r_put C (M2 := (mI M 135 7 (nI 2))) (Cn := RX8) (T := TX8) (N := 18) (id := 135) (by decide) inw_X8 tyX8_ok nmX8 rfl rfl 7 (by decide) rfl fl_X8_41 rfl rfl (rfl) (Nat.le_of_ble_eq_true rfl) (fun j hj => ⟨mI_ne _ hj, rfl⟩) rfl dX8_join_31 ?_
        refine r_aload_n C dX8_join_34 rfl 0 rfl ?_
        refine r_get C (Cn := RX8) (T := TX8) (N := 18) (id := 135) (by decide) inw_X8 rfl rfl 7 (by decide) rfl fl_X8_41 rfl dX8_join_35 ?_
        refine r_topi (w := nI 2) (rfl) ?_
        refine r_if_le C 43 dX8_join_38 (by decide) (fun h38 => ?_) (fun h38 => ?_)
        · exact absurd h38 (by decide)
        ·
          refine r_iconst C (nI 0) dX8_join_41 (by decide) ?_
          exact E 0 _ _ _ _ (Nat.le_of_ble_eq_true rfl) dX8_join_42 (⟨rfl, rfl⟩)
    · exact absurd (h14.symm.trans h6) (by decide)
set_option maxRecDepth 100000 in
set_option maxHeartbeats 4000000 in
theorem c_X8_weigh (l : Launch) (D : va_G) (cs : Nat → ClassId) (ad : Nat → Nat) (M : Mm) (n : Nat) (hn : M.1 136 0 = nI n) (hn8 : n ≤ 8) (s : Nat) (hs : M.1 135 1 = nI s) (hs6 : s ≤ 6) (v w : Nat) (hv : v < n) (hw : w ≤ 9) : ∀ sz : Nat, Met l yX8_weigh (.code yX8_weigh cX8_weigh 4 (some .int) :: TT) { frames := 2, cells := 0, slots := 0, locals := 43 } (va_Pc [.ref (ad 135), .int (nI v), .int (nI w)] (fun U9 => U9.heap.size = sz ∧ wB D cs ad (fA ad sz) M U9)) (va_Qi (fun r M2 => r = M.1 136 (2 + v) ∧ M2 = mI (saveM (mI M 135 7 (nI 0)) s) 136 (2 + v) (nI w)) (wB D cs ad (fA ad sz)) (fA ad sz)) 0 0 (fA ad sz) := by
  have w1 := wit_n hv (by omega)
  have w2 : wit (nI w) (nI 0) (nI 9) = true := (wit_iff (by omega) (by omega) (by omega)).mpr ⟨by omega, hw⟩
  refine st_I (by decide) (Nat.le_of_ble_eq_true rfl) (fun κ C E => ?_)
  refine r_lv (lv2 := [(0, .ref (ad 135)), (1, .int (nI v)), (2, .int (nI w))]) [0, 1, 2] rfl ?_
  refine r_aload_n C dX8_weigh_0 rfl 0 rfl ?_
  refine r_aload_n C dX8_weigh_1 rfl 0 rfl ?_
  refine r_iload_n C dX8_weigh_2 rfl 1 rfl ?_
  refine r_pcallV_i (nA := 1) C (Nat.le_of_ble_eq_true rfl) [.int (nI v)] (c_X8_isVertex l D cs ad M (nI v) n hn hn8) (tt_V ml_X8_113 im_X8_isVertex se_X8_isVertex in_X8 co_X8_isVertex) ⟨rfl, rfl⟩ ⟨rfl, by decide, by decide, by decide⟩ ⟨Nat.le_of_ble_eq_true rfl, Nat.le_of_ble_eq_true rfl⟩ (by decide) rfl rfl rfl rfl rfl (Nat.le_of_ble_eq_true rfl) dX8_weigh_3 ?_
  refine r_ifB_ne C 13 dX8_weigh_6 (by decide) (fun h6 => ?_) (fun h6 => ?_)
  ·
    refine r_iload_n C dX8_weigh_13 rfl 2 rfl ?_
    refine r_iconst C (nI 0) dX8_weigh_14 (by decide) ?_
    refine r_bipush C (nI 9) dX8_weigh_15 (by decide) ?_
    refine r_pcallS_i (nA := 3) C (Nat.le_of_ble_eq_true rfl) [.int (nI w), .int (nI 0), .int (nI 9)] (c_X8_within l D cs ad M (nI w) (nI 0) (nI 9) ) (tt_S ml_X8_48 st_X8_within in_X8 co_X8_within) ⟨rfl, rfl⟩ ⟨rfl, by decide, by decide, by decide⟩ ⟨Nat.le_of_ble_eq_true rfl, Nat.le_of_ble_eq_true rfl⟩ rfl rfl (Nat.le_of_ble_eq_true rfl) dX8_weigh_17 ?_
    refine r_ifB_eq C 27 dX8_weigh_20 (by decide) (fun h20 => ?_) (fun h20 => ?_)
    · exact absurd (h20.symm.trans w2) (by decide)
    ·
      refine r_iconst C (nI 0) dX8_weigh_23 (by decide) ?_
      refine r_goto C 28 dX8_weigh_24 (by decide) ?_
      refine r_put C (M2 := (mI M 135 7 (nI 0))) (Cn := RX8) (T := TX8) (N := 18) (id := 135) (by decide) inw_X8 tyX8_ok nmX8 rfl rfl 7 (by decide) rfl fl_X8_41 rfl rfl (rfl) (Nat.le_of_ble_eq_true rfl) (fun j hj => ⟨mI_ne _ hj, rfl⟩) rfl dX8_weigh_28 ?_
      refine r_aload_n C dX8_weigh_31 rfl 0 rfl ?_
      refine r_get C (Cn := RX8) (T := TX8) (N := 18) (id := 135) (by decide) inw_X8 rfl rfl 7 (by decide) rfl fl_X8_41 rfl dX8_weigh_32 ?_
      refine r_topi (w := nI 0) (rfl) ?_
      refine r_if_le C 40 dX8_weigh_35 (by decide) (fun h35 => ?_) (fun h35 => ?_)
      ·
        refine r_aload_n C dX8_weigh_40 rfl 0 rfl ?_
        refine r_pcallV_v (nA := 0) C (Nat.le_of_ble_eq_true rfl) [] (c_X8_save l D cs ad (mI M 135 7 (nI 0))  s hs hs6) (tt_V ml_X8_110 im_X8_save se_X8_save in_X8 co_X8_save) ⟨rfl, rfl⟩ ⟨rfl, by decide, by decide, by decide⟩ ⟨Nat.le_of_ble_eq_true rfl, Nat.le_of_ble_eq_true rfl⟩ (by decide) rfl rfl rfl rfl rfl (Nat.le_of_ble_eq_true rfl) dX8_weigh_41 ?_
        refine r_aload_n C dX8_weigh_44 rfl 0 rfl ?_
        refine r_iload_n C dX8_weigh_45 rfl 1 rfl ?_
        refine r_pcallV_i (nA := 1) C (Nat.le_of_ble_eq_true rfl) [.int (nI v)] (c_X8_weight l D cs ad (saveM (mI M 135 7 (nI 0)) s) v (by omega)) (tt_V ml_X8_70 im_X8_weight se_X8_weight in_X8 co_X8_weight) ⟨rfl, rfl⟩ ⟨rfl, by decide, by decide, by decide⟩ ⟨Nat.le_of_ble_eq_true rfl, Nat.le_of_ble_eq_true rfl⟩ (by decide) rfl rfl rfl rfl rfl (Nat.le_of_ble_eq_true rfl) dX8_weigh_46 ?_
        refine r_topi (w := (M.1 136 (2 + v))) rfl ?_
        refine r_istore_n C [(3, .int (M.1 136 (2 + v))), (0, .ref (ad 135)), (1, .int (nI v)), (2, .int (nI w))] dX8_weigh_49 rfl (by decide) rfl ?_
        refine r_aload_n C dX8_weigh_50 rfl 1 rfl ?_
        refine r_get C (Cn := RX8) (T := TX8) (N := 18) (id := 135) (by decide) inw_X8 rfl rfl 0 (by decide) rfl fl_X8_7 rfl dX8_weigh_51 ?_
        refine r_iconst C (nI 2) dX8_weigh_54 (by decide) ?_
        refine r_iload_n C dX8_weigh_55 rfl 2 rfl ?_
        refine r_iadd C dX8_weigh_56 ?_
        refine r_topi (nI_add 2 v) ?_
        refine r_iload_n C dX8_weigh_57 rfl 3 rfl ?_
        refine r_iast C (id := 136) (n := 55) (a := 2 + v) (by decide) (fun _ => rfl) (by omega) (by decide) dX8_weigh_58 ?_
        refine r_iload_n C dX8_weigh_59 rfl 0 rfl ?_
        exact E 0 _ _ _ _ (Nat.le_of_ble_eq_true rfl) dX8_weigh_60 (⟨rfl, rfl⟩)
      · exact absurd h35 (by decide)
  · exact absurd (h6.symm.trans w1) (by decide)
set_option maxRecDepth 100000 in
set_option maxHeartbeats 4000000 in
theorem c_X8_weighX (l : Launch) (D : va_G) (cs : Nat → ClassId) (ad : Nat → Nat) (M : Mm) (n : Nat) (hn : M.1 136 0 = nI n) (hn8 : n ≤ 8) (x y : Int32) (hbad : wit x (nI 0) (nI n - nI 1) = false) : ∀ sz : Nat, Met l yX8_weigh (.code yX8_weigh cX8_weigh 4 (some .int) :: TT) { frames := 2, cells := 0, slots := 0, locals := 43 } (va_Pc [.ref (ad 135), .int x, .int y] (fun U9 => U9.heap.size = sz ∧ wB D cs ad (fA ad sz) M U9)) (va_Qi (fun r M2 => r = nI 0 ∧ M2 = mI M 135 7 (nI 1)) (wB D cs ad (fA ad sz)) (fA ad sz)) 0 0 (fA ad sz) := by
  refine st_I (by decide) (Nat.le_of_ble_eq_true rfl) (fun κ C E => ?_)
  refine r_lv (lv2 := [(0, .ref (ad 135)), (1, .int x), (2, .int y)]) [0, 1, 2] rfl ?_
  refine r_aload_n C dX8_weigh_0 rfl 0 rfl ?_
  refine r_aload_n C dX8_weigh_1 rfl 0 rfl ?_
  refine r_iload_n C dX8_weigh_2 rfl 1 rfl ?_
  refine r_pcallV_i (nA := 1) C (Nat.le_of_ble_eq_true rfl) [.int x] (c_X8_isVertex l D cs ad M x n hn hn8) (tt_V ml_X8_113 im_X8_isVertex se_X8_isVertex in_X8 co_X8_isVertex) ⟨rfl, rfl⟩ ⟨rfl, by decide, by decide, by decide⟩ ⟨Nat.le_of_ble_eq_true rfl, Nat.le_of_ble_eq_true rfl⟩ (by decide) rfl rfl rfl rfl rfl (Nat.le_of_ble_eq_true rfl) dX8_weigh_3 ?_
  refine r_ifB_ne C 13 dX8_weigh_6 (by decide) (fun h6 => ?_) (fun h6 => ?_)
  · exact absurd (h6.symm.trans hbad) (by decide)
  ·
    refine r_iconst C (nI 1) dX8_weigh_9 (by decide) ?_
    refine r_goto C 28 dX8_weigh_10 (by decide) ?_
    refine r_put C (M2 := (mI M 135 7 (nI 1))) (Cn := RX8) (T := TX8) (N := 18) (id := 135) (by decide) inw_X8 tyX8_ok nmX8 rfl rfl 7 (by decide) rfl fl_X8_41 rfl rfl (rfl) (Nat.le_of_ble_eq_true rfl) (fun j hj => ⟨mI_ne _ hj, rfl⟩) rfl dX8_weigh_28 ?_
    refine r_aload_n C dX8_weigh_31 rfl 0 rfl ?_
    refine r_get C (Cn := RX8) (T := TX8) (N := 18) (id := 135) (by decide) inw_X8 rfl rfl 7 (by decide) rfl fl_X8_41 rfl dX8_weigh_32 ?_
    refine r_topi (w := nI 1) (rfl) ?_
    refine r_if_le C 40 dX8_weigh_35 (by decide) (fun h35 => ?_) (fun h35 => ?_)
    · exact absurd h35 (by decide)
    ·
      refine r_iconst C (nI 0) dX8_weigh_38 (by decide) ?_
      exact E 0 _ _ _ _ (Nat.le_of_ble_eq_true rfl) dX8_weigh_39 (⟨rfl, rfl⟩)
set_option maxRecDepth 100000 in
set_option maxHeartbeats 4000000 in
theorem c_X8_weighY (l : Launch) (D : va_G) (cs : Nat → ClassId) (ad : Nat → Nat) (M : Mm) (n : Nat) (hn : M.1 136 0 = nI n) (hn8 : n ≤ 8) (v : Nat) (hv : v < n) (y : Int32) (hbad : wit y (nI 0) (nI 9) = false) : ∀ sz : Nat, Met l yX8_weigh (.code yX8_weigh cX8_weigh 4 (some .int) :: TT) { frames := 2, cells := 0, slots := 0, locals := 43 } (va_Pc [.ref (ad 135), .int (nI v), .int y] (fun U9 => U9.heap.size = sz ∧ wB D cs ad (fA ad sz) M U9)) (va_Qi (fun r M2 => r = nI 0 ∧ M2 = mI M 135 7 (nI 2)) (wB D cs ad (fA ad sz)) (fA ad sz)) 0 0 (fA ad sz) := by
  refine st_I (by decide) (Nat.le_of_ble_eq_true rfl) (fun κ C E => ?_)
  refine r_lv (lv2 := [(0, .ref (ad 135)), (1, .int (nI v)), (2, .int y)]) [0, 1, 2] rfl ?_
  refine r_aload_n C dX8_weigh_0 rfl 0 rfl ?_
  refine r_aload_n C dX8_weigh_1 rfl 0 rfl ?_
  refine r_iload_n C dX8_weigh_2 rfl 1 rfl ?_
  refine r_pcallV_i (nA := 1) C (Nat.le_of_ble_eq_true rfl) [.int (nI v)] (c_X8_isVertex l D cs ad M (nI v) n hn hn8) (tt_V ml_X8_113 im_X8_isVertex se_X8_isVertex in_X8 co_X8_isVertex) ⟨rfl, rfl⟩ ⟨rfl, by decide, by decide, by decide⟩ ⟨Nat.le_of_ble_eq_true rfl, Nat.le_of_ble_eq_true rfl⟩ (by decide) rfl rfl rfl rfl rfl (Nat.le_of_ble_eq_true rfl) dX8_weigh_3 ?_
  refine r_ifB_ne C 13 dX8_weigh_6 (by decide) (fun h6 => ?_) (fun h6 => ?_)
  ·
    refine r_iload_n C dX8_weigh_13 rfl 2 rfl ?_
    refine r_iconst C (nI 0) dX8_weigh_14 (by decide) ?_
    refine r_bipush C (nI 9) dX8_weigh_15 (by decide) ?_
    refine r_pcallS_i (nA := 3) C (Nat.le_of_ble_eq_true rfl) [.int y, .int (nI 0), .int (nI 9)] (c_X8_within l D cs ad M y (nI 0) (nI 9) ) (tt_S ml_X8_48 st_X8_within in_X8 co_X8_within) ⟨rfl, rfl⟩ ⟨rfl, by decide, by decide, by decide⟩ ⟨Nat.le_of_ble_eq_true rfl, Nat.le_of_ble_eq_true rfl⟩ rfl rfl (Nat.le_of_ble_eq_true rfl) dX8_weigh_17 ?_
    refine r_ifB_eq C 27 dX8_weigh_20 (by decide) (fun h20 => ?_) (fun h20 => ?_)
    ·
      refine r_iconst C (nI 2) dX8_weigh_27 (by decide) ?_
      refine r_put C (M2 := (mI M 135 7 (nI 2))) (Cn := RX8) (T := TX8) (N := 18) (id := 135) (by decide) inw_X8 tyX8_ok nmX8 rfl rfl 7 (by decide) rfl fl_X8_41 rfl rfl (rfl) (Nat.le_of_ble_eq_true rfl) (fun j hj => ⟨mI_ne _ hj, rfl⟩) rfl dX8_weigh_28 ?_
      refine r_aload_n C dX8_weigh_31 rfl 0 rfl ?_
      refine r_get C (Cn := RX8) (T := TX8) (N := 18) (id := 135) (by decide) inw_X8 rfl rfl 7 (by decide) rfl fl_X8_41 rfl dX8_weigh_32 ?_
      refine r_topi (w := nI 2) (rfl) ?_
      refine r_if_le C 40 dX8_weigh_35 (by decide) (fun h35 => ?_) (fun h35 => ?_)
      · exact absurd h35 (by decide)
      ·
        refine r_iconst C (nI 0) dX8_weigh_38 (by decide) ?_
        exact E 0 _ _ _ _ (Nat.le_of_ble_eq_true rfl) dX8_weigh_39 (⟨rfl, rfl⟩)
    · exact absurd (h20.symm.trans hbad) (by decide)
  · exact absurd (h6.symm.trans (wit_n hv (by omega))) (by decide)
set_option maxRecDepth 100000 in
set_option maxHeartbeats 4000000 in
theorem c_X8_complement (l : Launch) (D : va_G) (cs : Nat → ClassId) (ad : Nat → Nat) (M : Mm) (n : Nat) (hn : M.1 136 0 = nI n) (hn8 : n ≤ 8) (s : Nat) (hs : M.1 135 1 = nI s) (hs6 : s ≤ 6) : ∀ sz : Nat, Met l yX8_complement (.code yX8_complement cX8_complement 2 (some .int) :: TT) { frames := 2, cells := 0, slots := 0, locals := 44 } (va_Pc [.ref (ad 135)] (fun U9 => U9.heap.size = sz ∧ wB D cs ad (fA ad sz) M U9)) (va_Qi (fun r M2 => r = edz (cpl (M.1 136) n n) n ∧ M2 = mA (saveM (mI M 135 7 (nI 0)) s) 136 (cpl (M.1 136) n n)) (wB D cs ad (fA ad sz)) (fA ad sz)) 0 0 (fA ad sz) := by
  refine st_I (by decide) (Nat.le_of_ble_eq_true rfl) (fun κ C E => ?_)
  refine r_lv (lv2 := [(0, .ref (ad 135))]) [0] rfl ?_
  refine r_aload_n C dX8_complement_0 rfl 0 rfl ?_
  refine r_iconst C (nI 0) dX8_complement_1 (by decide) ?_
  refine r_put C (M2 := (mI M 135 7 (nI 0))) (Cn := RX8) (T := TX8) (N := 18) (id := 135) (by decide) inw_X8 tyX8_ok nmX8 rfl rfl 7 (by decide) rfl fl_X8_41 rfl rfl (rfl) (Nat.le_of_ble_eq_true rfl) (fun j hj => ⟨mI_ne _ hj, rfl⟩) rfl dX8_complement_2 ?_
  refine r_aload_n C dX8_complement_5 rfl 0 rfl ?_
  refine r_pcallV_v (nA := 0) C (Nat.le_of_ble_eq_true rfl) [] (c_X8_save l D cs ad (mI M 135 7 (nI 0))  s hs hs6) (tt_V ml_X8_110 im_X8_save se_X8_save in_X8 co_X8_save) ⟨rfl, rfl⟩ ⟨rfl, by decide, by decide, by decide⟩ ⟨Nat.le_of_ble_eq_true rfl, Nat.le_of_ble_eq_true rfl⟩ (by decide) rfl rfl rfl rfl rfl (Nat.le_of_ble_eq_true rfl) dX8_complement_6 ?_
  refine r_iconst C (nI 0) dX8_complement_9 (by decide) ?_
  refine r_istore_n C [(1, .int (nI 0)), (0, .ref (ad 135))] dX8_complement_10 rfl (by decide) rfl ?_
  have Lp : ∀ (f k : Nat), n + 1 ≤ k + f → k ≤ n → VV l D cs ad 2 κ 0 (mA (saveM (mI M 135 7 (nI 0)) s) 136 (cpl (M.1 136) n k)) 11 [(1, .int (nI k)), (0, .ref (ad 135))] [] := by
    intro f
    induction f with
    | zero => intro k hk1 hk2; exact absurd hk1 (by omega)
    | succ f ih =>
      intro k hk1 hk2
      refine r_iload_n C dX8_complement_11 rfl 0 rfl ?_
      refine r_aload_n C dX8_complement_12 rfl 1 rfl ?_
      refine r_get C (Cn := RX8) (T := TX8) (N := 18) (id := 135) (by decide) inw_X8 rfl rfl 0 (by decide) rfl fl_X8_7 rfl dX8_complement_13 ?_
      refine r_iconst C (nI 0) dX8_complement_16 (by decide) ?_
      refine r_iald C (id := 136) (n := 55) (a := 0) (by decide) rfl (by decide) (by decide) dX8_complement_17 ?_
      refine r_topi (w := nI n) (hn) ?_
      refine r_icmpN_ge C 64 dX8_complement_18 (by decide) (by omega) (by omega) (fun h18 => ?_) (fun h18 => ?_)
      ·
        have hk9 : n = k := by omega
        subst hk9
        refine r_aload_n C dX8_complement_64 rfl 1 rfl ?_
        refine r_pcallV_i (nA := 0) C (Nat.le_of_ble_eq_true rfl) [] (c_X8_edges l D cs ad (mA (saveM (mI M 135 7 (nI 0)) s) 136 (cpl (M.1 136) n n))  n hn hn8) (tt_V ml_X8_120 im_X8_edges se_X8_edges in_X8 co_X8_edges) ⟨rfl, rfl⟩ ⟨rfl, by decide, by decide, by decide⟩ ⟨Nat.le_of_ble_eq_true rfl, Nat.le_of_ble_eq_true rfl⟩ (by decide) rfl rfl rfl rfl rfl (Nat.le_of_ble_eq_true rfl) dX8_complement_65 ?_
        refine r_topi (w := (edz ((mA (saveM (mI M 135 7 (nI 0)) s) 136 (cpl (M.1 136) n n)).1 136) n)) rfl ?_
        exact E 0 _ _ _ _ (Nat.le_of_ble_eq_true rfl) dX8_complement_68 (⟨rfl, rfl⟩)
      ·
        refine r_aload_n C dX8_complement_21 rfl 1 rfl ?_
        refine r_get C (Cn := RX8) (T := TX8) (N := 18) (id := 135) (by decide) inw_X8 rfl rfl 0 (by decide) rfl fl_X8_7 rfl dX8_complement_22 ?_
        refine r_bipush C (nI 10) dX8_complement_25 (by decide) ?_
        refine r_iload_n C dX8_complement_27 rfl 0 rfl ?_
        refine r_iadd C dX8_complement_28 ?_
        refine r_topi (nI_add 10 k) ?_
        refine r_iconst C (nI 1) dX8_complement_29 (by decide) ?_
        refine r_aload_n C dX8_complement_30 rfl 1 rfl ?_
        refine r_get C (Cn := RX8) (T := TX8) (N := 18) (id := 135) (by decide) inw_X8 rfl rfl 0 (by decide) rfl fl_X8_7 rfl dX8_complement_31 ?_
        refine r_iconst C (nI 0) dX8_complement_34 (by decide) ?_
        refine r_iald C (id := 136) (n := 55) (a := 0) (by decide) rfl (by decide) (by decide) dX8_complement_35 ?_
        refine r_topi (w := nI n) (hn) ?_
        refine r_ishl C dX8_complement_36 ?_
        refine r_topi (w := s1 n) rfl ?_
        refine r_iconst C (nI 1) dX8_complement_37 (by decide) ?_
        refine r_isub C dX8_complement_38 ?_
        refine r_aload_n C dX8_complement_39 rfl 1 rfl ?_
        refine r_get C (Cn := RX8) (T := TX8) (N := 18) (id := 135) (by decide) inw_X8 rfl rfl 0 (by decide) rfl fl_X8_7 rfl dX8_complement_40 ?_
        refine r_bipush C (nI 10) dX8_complement_43 (by decide) ?_
        refine r_iload_n C dX8_complement_45 rfl 0 rfl ?_
        refine r_iadd C dX8_complement_46 ?_
        refine r_topi (nI_add 10 k) ?_
        refine r_iald C (id := 136) (n := 55) (a := 10 + k) (by decide) rfl (by omega) (by decide) dX8_complement_47 ?_
        refine r_topi (w := (M.1 136 (10 + k))) (cpl_at _ _ _) ?_
        refine r_iconst C ((-1)) dX8_complement_48 (by decide) ?_
        refine r_ixor C dX8_complement_49 ?_
        refine r_topi (w := ntI (M.1 136 (10 + k))) rfl ?_
        refine r_iand C dX8_complement_50 ?_
        refine r_iconst C (nI 1) dX8_complement_51 (by decide) ?_
        refine r_iload_n C dX8_complement_52 rfl 0 rfl ?_
        refine r_ishl C dX8_complement_53 ?_
        refine r_topi (w := s1 k) rfl ?_
        refine r_iconst C ((-1)) dX8_complement_54 (by decide) ?_
        refine r_ixor C dX8_complement_55 ?_
        refine r_topi (w := ntI (s1 k)) rfl ?_
        refine r_iand C dX8_complement_56 ?_
        refine r_iast C (id := 136) (n := 55) (a := 10 + k) (by decide) (fun _ => rfl) (by omega) (by decide) dX8_complement_57 ?_
        refine r_iinc C (nI (k + 1)) [(1, .int (nI (k + 1))), (0, .ref (ad 135))] dX8_complement_58 (j := 0) rfl (inc_n k 1) (by decide) rfl ?_
        refine r_goto C 11 dX8_complement_61 (by decide) ?_
        refine r_lv (lv2 := [(1, .int (nI (k + 1))), (0, .ref (ad 135))]) [0, 1] rfl ?_
        refine r_mem (M2 := (mA (saveM (mI M 135 7 (nI 0)) s) 136 (cpl (M.1 136) n (k + 1)))) (by rw [mIA]; exact congrArg _ (cpl_s _ _ _)) ?_
        exact ih (k + 1) (by omega) (by omega)
  refine r_lv (lv2 := [(1, .int (nI 0)), (0, .ref (ad 135))]) [0, 1] rfl ?_
  refine r_mem (M2 := (mA (saveM (mI M 135 7 (nI 0)) s) 136 (cpl (M.1 136) n 0))) (mA_id (cpl_0 _ _)) ?_
  exact Lp (n + 1) 0 (by omega) (by omega)
set_option maxRecDepth 100000 in
set_option maxHeartbeats 4000000 in
theorem c_X8_without (l : Launch) (D : va_G) (cs : Nat → ClassId) (ad : Nat → Nat) (M : Mm) (x : Int32) (k : Nat) (hk : k < 8) : ∀ sz : Nat, Met l yX8_without (.code yX8_without cX8_without 2 (some .int) :: TT) { frames := 0, cells := 0, slots := 0, locals := 0 } (va_Pc [.int x, .int (nI k)] (fun U9 => U9.heap.size = sz ∧ wB D cs ad (fA ad sz) M U9)) (va_Qi (fun r M2 => r = wo x k ∧ M2 = M) (wB D cs ad (fA ad sz)) (fA ad sz)) 0 0 (fA ad sz) := by
  refine st_I (by decide) (Nat.le_of_ble_eq_true rfl) (fun κ C E => ?_)
  refine r_lv (lv2 := [(0, .int x), (1, .int (nI k))]) [0, 1] rfl ?_
  refine r_iload_n C dX8_without_0 rfl 0 rfl ?_
  refine r_iconst C (nI 1) dX8_without_1 (by decide) ?_
  refine r_iload_n C dX8_without_2 rfl 1 rfl ?_
  refine r_ishl C dX8_without_3 ?_
  refine r_topi (w := s1 k) rfl ?_
  refine r_iconst C (nI 1) dX8_without_4 (by decide) ?_
  refine r_isub C dX8_without_5 ?_
  refine r_iand C dX8_without_6 ?_
  refine r_iload_n C dX8_without_7 rfl 0 rfl ?_
  refine r_iload_n C dX8_without_8 rfl 1 rfl ?_
  refine r_iconst C (nI 1) dX8_without_9 (by decide) ?_
  refine r_iadd C dX8_without_10 ?_
  refine r_topi (nI_add k 1) ?_
  refine r_ishr C dX8_without_11 ?_
  refine r_iload_n C dX8_without_12 rfl 1 rfl ?_
  refine r_ishl C dX8_without_13 ?_
  refine r_ior C dX8_without_14 ?_
  exact E 0 _ _ _ _ (Nat.le_of_ble_eq_true rfl) dX8_without_15 (⟨rfl, rfl⟩)
