/-! ===== the class: the search for a handle (written by wip/whole/gen/cls11.py) ===== -/
section CV4
variable {l : Launch} {D : va_G} {cs : Nat → ClassId} {ad : Nat → Nat} {nL : Nat} {κ : Kx} {u : Nat} {M : Mm} {pc : Nat} {lv : List (Nat × Value)} {st : List Value} {cc : ByteArray} {own : String} {fr lo U : Nat}
theorem r_ineg (C : CX D cs ad cc nL own fr lo U κ) {x : Int32} (d : decode cc pc = .ok (.ineg, 1)) (k : VV l D cs ad nL κ u M (pc + 1) lv (.int (-x) :: st)) : VV l D cs ad nL κ u M pc lv (.int x :: st) := by
  obtain ⟨p, e, R, s, m, args, below, meth, c, c0, s0, Q⟩ := κ
  obtain ⟨hx, hb, hml, hown, hts, hK, hD, hfr, hlo, hc0, hs0⟩ := C
  intro H locs ls hP hS hl
  exact lv_ineg hx hb d (k H locs ls hP hS hl)
end CV4
theorem ng0 (x : Int32) : -x = nI 0 - x := (Int32.zero_sub x).symm
/-- the digit of a code -/
def dg (k b t : Nat) : Nat := cD k b t % b
theorem dg_B {k b t s : Nat} (hb : b = 3 ∨ b = 5) (hk : k < 625) (ht : t < 4) (hs : s < 4) (h1 : k % b ^ t = b ^ t - 1) (h2 : dg k b t < b - 1) : dg (k + 1) b s = if s < t then 0 else if s = t then dg k b t + 1 else dg k b s := by
  rcases hb with rfl | rfl
  · have h : ∀ k : Fin 625, ∀ t : Fin 4, ∀ s : Fin 4, k.val % 3 ^ t.val = 3 ^ t.val - 1 → dg k.val 3 t.val < 3 - 1 → dg (k.val + 1) 3 s.val = if s.val < t.val then 0 else if s.val = t.val then dg k.val 3 t.val + 1 else dg k.val 3 s.val := by decide +kernel
    exact h ⟨k, hk⟩ ⟨t, ht⟩ ⟨s, hs⟩ h1 h2
  · have h : ∀ k : Fin 625, ∀ t : Fin 4, ∀ s : Fin 4, k.val % 5 ^ t.val = 5 ^ t.val - 1 → dg k.val 5 t.val < 5 - 1 → dg (k.val + 1) 5 s.val = if s.val < t.val then 0 else if s.val = t.val then dg k.val 5 t.val + 1 else dg k.val 5 s.val := by decide +kernel
    exact h ⟨k, hk⟩ ⟨t, ht⟩ ⟨s, hs⟩ h1 h2
theorem dg_A {k b t : Nat} (hb : b = 3 ∨ b = 5) (hk : k < 625) (ht : t < 4) (h1 : k % b ^ t = b ^ t - 1) (h2 : dg k b t = b - 1) : k % b ^ (t + 1) = b ^ (t + 1) - 1 := by
  rcases hb with rfl | rfl
  · have h : ∀ k : Fin 625, ∀ t : Fin 4, k.val % 3 ^ t.val = 3 ^ t.val - 1 → dg k.val 3 t.val = 3 - 1 → k.val % 3 ^ (t.val + 1) = 3 ^ (t.val + 1) - 1 := by decide +kernel
    exact h ⟨k, hk⟩ ⟨t, ht⟩ h1 h2
  · have h : ∀ k : Fin 625, ∀ t : Fin 4, k.val % 5 ^ t.val = 5 ^ t.val - 1 → dg k.val 5 t.val = 5 - 1 → k.val % 5 ^ (t.val + 1) = 5 ^ (t.val + 1) - 1 := by decide +kernel
    exact h ⟨k, hk⟩ ⟨t, ht⟩ h1 h2
theorem dg_C {k b d s : Nat} (hb : b = 3 ∨ b = 5) (hk : k < 625) (hd : d ≤ 4) (hs : s < d) (h1 : k % b ^ d = b ^ d - 1) : dg (k + 1) b s = 0 := by
  rcases hb with rfl | rfl
  · have h : ∀ k : Fin 625, ∀ d : Fin 5, ∀ s : Fin 4, s.val < d.val → k.val % 3 ^ d.val = 3 ^ d.val - 1 → dg (k.val + 1) 3 s.val = 0 := by decide +kernel
    exact h ⟨k, hk⟩ ⟨d, by omega⟩ ⟨s, by omega⟩ hs h1
  · have h : ∀ k : Fin 625, ∀ d : Fin 5, ∀ s : Fin 4, s.val < d.val → k.val % 5 ^ d.val = 5 ^ d.val - 1 → dg (k.val + 1) 5 s.val = 0 := by decide +kernel
    exact h ⟨k, hk⟩ ⟨d, by omega⟩ ⟨s, by omega⟩ hs h1
theorem dg_ge {size x : Nat} (hs : size ≤ 2) (hx : x ≤ 2 * size) : nI size ≤ nI x - nI size ↔ x = 2 * size := by
  have h : ∀ s : Fin 3, ∀ x : Fin 5, x.val ≤ 2 * s.val → (nI s.val ≤ nI x.val - nI s.val ↔ x.val = 2 * s.val) := by decide +kernel
  exact h ⟨size, by omega⟩ ⟨x, by omega⟩ hx
/-- the trial row of a code -/
def trI (d k b size p : Nat) : Int32 := if p < d then nI (dg k b (d - 1 - p)) - nI size else nI 0
theorem tr_hn {z : Nat → Int32} {d k b size p : Nat} (hz : ∀ p, d ≤ p → p < 4 → z (50 + p) = nI 0) (hp : p < 4) : trI d k b size p = hnR z d k b size d (50 + p) := by
  unfold trI hnR hnD dg
  by_cases q : p < d
  · rw [if_pos q, if_pos (by omega), show 50 + p - 50 = p by omega]
  · rw [if_neg q, if_neg (by omega), hz p (by omega) hp]
theorem tr_0 {d b size p : Nat} (hb : b = 3 ∨ b = 5) : trI d 0 b size p = if p < d then nI 0 - nI size else nI 0 := by
  unfold trI dg cD
  by_cases q : p < d
  · rw [if_pos q, if_pos q, Nat.zero_div, Nat.zero_mod]
  · rw [if_neg q, if_neg q]
def goI (d k b size t : Nat) (M M3 : Mm) : Prop := o1 133 M M3 ∧ (∀ p, p < 4 → M3.1 133 p = if p < d ∧ d - t ≤ p then nI 0 - nI size else trI d k b size p) ∧ k % b ^ t = b ^ t - 1
theorem go_at {d k b size t : Nat} {M M3 : Mm} (h : goI d k b size t M M3) (ht : t < d) (hd : d ≤ 4) : M3.1 133 (d - t - 1) = nI (dg k b t) - nI size := by
  rw [h.2.1 _ (by omega), if_neg (by omega)]
  unfold trI
  rw [if_pos (by omega), show d - 1 - (d - t - 1) = t by omega]
theorem go_s {d k b size t : Nat} {M M3 : Mm} (h : goI d k b size t M M3) (ht : t < d) (hd : d ≤ 4) (hb : b = 3 ∨ b = 5) (hk : k < 625) (h2 : dg k b t = b - 1) : goI d k b size (t + 1) M (mI M3 133 (d - t - 1) (nI 0 - nI size)) := by
  refine ⟨h.1.I, fun p hp => ?_, dg_A hb hk (by omega) h.2.2 h2⟩
  rw [mI_eq]; unfold upd
  by_cases e : p = d - t - 1
  · rw [if_pos e, if_pos (by omega)]
  · rw [if_neg e, h.2.1 p hp]
    by_cases q : p < d ∧ d - t ≤ p
    · rw [if_pos q, if_pos (by omega)]
    · rw [if_neg q, if_neg (by omega)]
def goP (d k b size : Nat) (M M2 : Mm) : Prop := o1 133 M M2 ∧ ∀ p, p < 4 → M2.1 133 p = trI d (k + 1) b size p
theorem go_e1 {d k b size t : Nat} {M M3 : Mm} {x : Int32} (h : goI d k b size t M M3) (ht : t < d) (hd : d ≤ 4) (hb : b = 3 ∨ b = 5) (hk : k < 625) (h2 : dg k b t < b - 1) (hx : x = nI (dg k b t + 1) - nI size) : goP d k b size M (mI M3 133 (d - t - 1) x) := by
  subst hx
  refine ⟨h.1.I, fun p hp => ?_⟩
  rw [mI_eq]; unfold upd trI
  by_cases q : p < d
  · rw [if_pos q, dg_B hb hk (by omega) (show d - 1 - p < 4 by omega) h.2.2 h2]
    by_cases e : p = d - t - 1
    · rw [if_pos e, if_neg (by omega), if_pos (by omega)]
    · rw [if_neg e, h.2.1 p hp]
      by_cases w : d - t ≤ p
      · rw [if_pos ⟨q, w⟩, if_pos (by omega)]
      · rw [if_neg (fun x => w x.2), if_neg (by omega), if_neg (by omega)]; unfold trI; rw [if_pos q]
  · rw [if_neg (by omega), if_neg q, h.2.1 p hp, if_neg (by omega)]; unfold trI; rw [if_neg q]
theorem go_e2 {d k b size : Nat} {M M3 : Mm} (h : goI d k b size d M M3) (hd : d ≤ 4) (hb : b = 3 ∨ b = 5) (hk : k < 625) : goP d k b size M M3 := by
  refine ⟨h.1, fun p hp => ?_⟩
  rw [h.2.1 p hp]; unfold trI
  by_cases q : p < d
  · rw [if_pos ⟨q, by omega⟩, if_pos q, dg_C hb hk hd (show d - 1 - p < d by omega) h.2.2]
  · rw [if_neg (fun w => q w.1), if_neg q, if_neg q]
def beI (d b size t : Nat) (M M3 : Mm) : Prop := o1 133 M M3 ∧ ∀ p, p < t → M3.1 133 p = trI d 0 b size p
theorem be_s {d b size t : Nat} {M M3 : Mm} {x : Int32} (h : beI d b size t M M3) (hb : b = 3 ∨ b = 5) (hx : x = if t < d then nI 0 - nI size else nI 0) : beI d b size (t + 1) M (mI M3 133 t x) := by
  subst hx
  refine ⟨h.1.I, fun p hp => ?_⟩
  rw [mI_eq]; unfold upd
  by_cases e : p = t
  · rw [if_pos e, e, tr_0 hb]
  · rw [if_neg e]; exact h.2 p (by omega)
set_option maxRecDepth 100000 in
set_option maxHeartbeats 4000000 in
theorem c_X5_begins (l : Launch) (D : va_G) (cs : Nat → ClassId) (ad : Nat → Nat) (M : Mm) (d : Nat) (hd4 : d ≤ 4) (size bb : Nat) (hbb : 2 * size + 1 = bb) (hs1 : 1 ≤ size) (hs2 : size ≤ 2) : ∀ sz : Nat, Met l yX5_begins (.code yX5_begins cX5_begins 5 (some .int) :: TT) { frames := 0, cells := 0, slots := 0, locals := 0 } (va_Pc [.ref (ad 130), .int (nI d), .int (nI size)] (fun U9 => U9.heap.size = sz ∧ wB D cs ad (fA ad sz) M U9)) (va_Qi (fun r M2 => r = nI (cdN d bb 4) ∧ beI d bb size 4 M M2) (wB D cs ad (fA ad sz)) (fA ad sz)) 0 0 (fA ad sz) := by
  have hb35 : bb = 3 ∨ bb = 5 := by omega
  refine st_I (by decide) (Nat.le_of_ble_eq_true rfl) (fun κ C E => ?_)
  refine r_lv (lv2 := [(0, .ref (ad 130)), (1, .int (nI d)), (2, .int (nI size))]) [0, 1, 2] rfl ?_
  refine r_iconst C (nI 1) dX5_begins_0 (by decide) ?_
  refine r_istore_n C [(3, .int (nI 1)), (0, .ref (ad 130)), (1, .int (nI d)), (2, .int (nI size))] dX5_begins_1 rfl (by decide) rfl ?_
  refine r_iconst C (nI 0) dX5_begins_2 (by decide) ?_
  refine r_istore C [(4, .int (nI 0)), (3, .int (nI 1)), (0, .ref (ad 130)), (1, .int (nI d)), (2, .int (nI size))] dX5_begins_3 (by decide) rfl ?_
  have Lp : ∀ (f_t t : Nat) (M3 : Mm), 4 + 1 ≤ t + f_t → t ≤ 4 → beI d bb size t M M3 → VV l D cs ad 5 κ 0 M3 5 [(4, .int (nI t)), (3, .int (nI (cdN d bb t))), (0, .ref (ad 130)), (1, .int (nI d)), (2, .int (nI size))] [] := by
    intro f_t
    induction f_t with
    | zero => intro t M3 hk1_t hk2_t hI_t; exact absurd hk1_t (by omega)
    | succ f_t ih_t =>
      intro t M3 hk1_t hk2_t hI_t
      refine r_iload C dX5_begins_5 0 rfl ?_
      refine r_iconst C (nI 4) dX5_begins_7 (by decide) ?_
      refine r_icmpN_ge C 54 dX5_begins_8 (by decide) (by omega) (by omega) (fun h8 => ?_) (fun h8 => ?_)
      ·
        have hk9 : 4 = t := by omega
        subst hk9
        refine r_iload_n C dX5_begins_54 rfl 1 rfl ?_
        exact E 0 _ _ _ _ (Nat.le_of_ble_eq_true rfl) dX5_begins_55 (⟨rfl, hI_t⟩)
      ·
        refine r_aload_n C dX5_begins_11 rfl 2 rfl ?_
        refine r_get C (Cn := RX5) (T := TX5) (N := 4) (id := 130) (by decide) inw_X5 rfl rfl 2 (by decide) rfl fl_X5_22 rfl dX5_begins_12 ?_
        refine r_iload C dX5_begins_15 0 rfl ?_
        refine r_iload C dX5_begins_17 0 rfl ?_
        refine r_iload_n C dX5_begins_19 rfl 3 rfl ?_
        refine r_icmpN_ge C 28 dX5_begins_20 (by decide) (by omega) (by omega) (fun h20 => ?_) (fun h20 => ?_)
        ·
          refine r_iconst C (nI 0) dX5_begins_28 (by decide) ?_
          refine r_topi (w := if t < d then nI 0 - nI size else nI 0) (if_neg (by omega)).symm ?_
          refine r_iast C (id := 133) (n := 4) (a := t) (by decide) (fun _ => rfl) (by omega) (by decide) dX5_begins_29 ?_
          refine r_iload_n C dX5_begins_30 rfl 1 rfl ?_
          refine r_iload C dX5_begins_31 0 rfl ?_
          refine r_iload_n C dX5_begins_33 rfl 3 rfl ?_
          refine r_icmpN_ge C 45 dX5_begins_34 (by decide) (by omega) (by omega) (fun h34 => ?_) (fun h34 => ?_)
          ·
            refine r_iconst C (nI 1) dX5_begins_45 (by decide) ?_
            refine r_topi (w := nI (if t < d then bb else 1)) (congrArg nI (show _ = if t < d then bb else 1 by split <;> omega)) ?_
            refine r_imul C dX5_begins_46 ?_
            refine r_topi (pk_mul (cdN d bb t) (if t < d then bb else 1)) ?_
            refine r_istore_n C [(3, .int (nI ((cdN d bb t) * (if t < d then bb else 1)))), (4, .int (nI t)), (0, .ref (ad 130)), (1, .int (nI d)), (2, .int (nI size))] dX5_begins_47 rfl (by decide) rfl ?_
            refine r_iinc C (nI (t + 1)) [(4, .int (nI (t + 1))), (3, .int (nI ((cdN d bb t) * (if t < d then bb else 1)))), (0, .ref (ad 130)), (1, .int (nI d)), (2, .int (nI size))] dX5_begins_48 (j := 1) rfl (inc_n t 1) (by decide) rfl ?_
            refine r_goto C 5 dX5_begins_51 (by decide) ?_
            refine r_lv (lv2 := [(4, .int (nI (t + 1))), (3, .int (nI (cdN d bb (t + 1)))), (0, .ref (ad 130)), (1, .int (nI d)), (2, .int (nI size))]) [0, 1, 2, 3, 4] rfl ?_
            exact ih_t (t + 1) _ (by omega) (by omega) (be_s hI_t hb35 rfl)
          ·
            refine r_iconst C (nI 2) dX5_begins_37 (by decide) ?_
            refine r_iload_n C dX5_begins_38 rfl 4 rfl ?_
            refine r_imul C dX5_begins_39 ?_
            refine r_topi (pk_mul 2 size) ?_
            refine r_iconst C (nI 1) dX5_begins_40 (by decide) ?_
            refine r_iadd C dX5_begins_41 ?_
            refine r_topi (nI_add (2 * size) 1) ?_
            refine r_goto C 46 dX5_begins_42 (by decide) ?_
            refine r_topi (w := nI (if t < d then bb else 1)) (congrArg nI (show _ = if t < d then bb else 1 by split <;> omega)) ?_
            refine r_imul C dX5_begins_46 ?_
            refine r_topi (pk_mul (cdN d bb t) (if t < d then bb else 1)) ?_
            refine r_istore_n C [(3, .int (nI ((cdN d bb t) * (if t < d then bb else 1)))), (4, .int (nI t)), (0, .ref (ad 130)), (1, .int (nI d)), (2, .int (nI size))] dX5_begins_47 rfl (by decide) rfl ?_
            refine r_iinc C (nI (t + 1)) [(4, .int (nI (t + 1))), (3, .int (nI ((cdN d bb t) * (if t < d then bb else 1)))), (0, .ref (ad 130)), (1, .int (nI d)), (2, .int (nI size))] dX5_begins_48 (j := 1) rfl (inc_n t 1) (by decide) rfl ?_
            refine r_goto C 5 dX5_begins_51 (by decide) ?_
            refine r_lv (lv2 := [(4, .int (nI (t + 1))), (3, .int (nI (cdN d bb (t + 1)))), (0, .ref (ad 130)), (1, .int (nI d)), (2, .int (nI size))]) [0, 1, 2, 3, 4] rfl ?_
            exact ih_t (t + 1) _ (by omega) (by omega) (be_s hI_t hb35 rfl)
        ·
          refine r_iload_n C dX5_begins_23 rfl 4 rfl ?_
          refine r_ineg C dX5_begins_24 ?_
          refine r_topi (w := nI 0 - (nI size)) (ng0 _) ?_
          refine r_goto C 29 dX5_begins_25 (by decide) ?_
          refine r_topi (w := if t < d then nI 0 - nI size else nI 0) (if_pos (by omega)).symm ?_
          refine r_iast C (id := 133) (n := 4) (a := t) (by decide) (fun _ => rfl) (by omega) (by decide) dX5_begins_29 ?_
          refine r_iload_n C dX5_begins_30 rfl 1 rfl ?_
          refine r_iload C dX5_begins_31 0 rfl ?_
          refine r_iload_n C dX5_begins_33 rfl 3 rfl ?_
          refine r_icmpN_ge C 45 dX5_begins_34 (by decide) (by omega) (by omega) (fun h34 => ?_) (fun h34 => ?_)
          ·
            refine r_iconst C (nI 1) dX5_begins_45 (by decide) ?_
            refine r_topi (w := nI (if t < d then bb else 1)) (congrArg nI (show _ = if t < d then bb else 1 by split <;> omega)) ?_
            refine r_imul C dX5_begins_46 ?_
            refine r_topi (pk_mul (cdN d bb t) (if t < d then bb else 1)) ?_
            refine r_istore_n C [(3, .int (nI ((cdN d bb t) * (if t < d then bb else 1)))), (4, .int (nI t)), (0, .ref (ad 130)), (1, .int (nI d)), (2, .int (nI size))] dX5_begins_47 rfl (by decide) rfl ?_
            refine r_iinc C (nI (t + 1)) [(4, .int (nI (t + 1))), (3, .int (nI ((cdN d bb t) * (if t < d then bb else 1)))), (0, .ref (ad 130)), (1, .int (nI d)), (2, .int (nI size))] dX5_begins_48 (j := 1) rfl (inc_n t 1) (by decide) rfl ?_
            refine r_goto C 5 dX5_begins_51 (by decide) ?_
            refine r_lv (lv2 := [(4, .int (nI (t + 1))), (3, .int (nI (cdN d bb (t + 1)))), (0, .ref (ad 130)), (1, .int (nI d)), (2, .int (nI size))]) [0, 1, 2, 3, 4] rfl ?_
            exact ih_t (t + 1) _ (by omega) (by omega) (be_s hI_t hb35 rfl)
          ·
            refine r_iconst C (nI 2) dX5_begins_37 (by decide) ?_
            refine r_iload_n C dX5_begins_38 rfl 4 rfl ?_
            refine r_imul C dX5_begins_39 ?_
            refine r_topi (pk_mul 2 size) ?_
            refine r_iconst C (nI 1) dX5_begins_40 (by decide) ?_
            refine r_iadd C dX5_begins_41 ?_
            refine r_topi (nI_add (2 * size) 1) ?_
            refine r_goto C 46 dX5_begins_42 (by decide) ?_
            refine r_topi (w := nI (if t < d then bb else 1)) (congrArg nI (show _ = if t < d then bb else 1 by split <;> omega)) ?_
            refine r_imul C dX5_begins_46 ?_
            refine r_topi (pk_mul (cdN d bb t) (if t < d then bb else 1)) ?_
            refine r_istore_n C [(3, .int (nI ((cdN d bb t) * (if t < d then bb else 1)))), (4, .int (nI t)), (0, .ref (ad 130)), (1, .int (nI d)), (2, .int (nI size))] dX5_begins_47 rfl (by decide) rfl ?_
            refine r_iinc C (nI (t + 1)) [(4, .int (nI (t + 1))), (3, .int (nI ((cdN d bb t) * (if t < d then bb else 1)))), (0, .ref (ad 130)), (1, .int (nI d)), (2, .int (nI size))] dX5_begins_48 (j := 1) rfl (inc_n t 1) (by decide) rfl ?_
            refine r_goto C 5 dX5_begins_51 (by decide) ?_
            refine r_lv (lv2 := [(4, .int (nI (t + 1))), (3, .int (nI (cdN d bb (t + 1)))), (0, .ref (ad 130)), (1, .int (nI d)), (2, .int (nI size))]) [0, 1, 2, 3, 4] rfl ?_
            exact ih_t (t + 1) _ (by omega) (by omega) (be_s hI_t hb35 rfl)
  refine r_lv (lv2 := [(4, .int (nI 0)), (3, .int (nI (cdN d bb 0))), (0, .ref (ad 130)), (1, .int (nI d)), (2, .int (nI size))]) [0, 1, 2, 3, 4] rfl ?_
  exact Lp (4 + 1) 0 _ (by omega) (by omega) ⟨o1.rf _ _, fun p hp => absurd hp (Nat.not_lt_zero p)⟩
theorem dg_1 (a b : Nat) : nI a - nI b + nI 1 = nI (a + 1) - nI b := by
  rw [← nI_add, Int32.sub_eq_add_neg, Int32.sub_eq_add_neg, Int32.add_assoc, Int32.add_assoc, Int32.add_comm (-nI b)]
set_option maxRecDepth 100000 in
set_option maxHeartbeats 4000000 in
theorem c_X5_goOn (l : Launch) (D : va_G) (cs : Nat → ClassId) (ad : Nat → Nat) (M : Mm) (d : Nat) (hd4 : d ≤ 4) (size bb : Nat) (hbb : 2 * size + 1 = bb) (hs1 : 1 ≤ size) (hs2 : size ≤ 2) (k : Nat) (hk : k < 625) (htr : ∀ p, p < 4 → M.1 133 p = trI d k bb size p) : ∀ sz : Nat, Met l yX5_goOn (.code yX5_goOn cX5_goOn 4 none :: TT) { frames := 0, cells := 0, slots := 0, locals := 0 } (va_Pc [.ref (ad 130), .int (nI d), .int (nI size)] (fun U9 => U9.heap.size = sz ∧ wB D cs ad (fA ad sz) M U9)) (va_Qv (fun M2 => goP d k bb size M M2) (wB D cs ad (fA ad sz)) (fA ad sz)) 0 0 (fA ad sz) := by
  have hb35 : bb = 3 ∨ bb = 5 := by omega
  refine st_V (by decide) (Nat.le_of_ble_eq_true rfl) (fun κ C E => ?_)
  refine r_lv (lv2 := [(0, .ref (ad 130)), (1, .int (nI d)), (2, .int (nI size))]) [0, 1, 2] rfl ?_
  refine r_iload_n C dX5_goOn_0 rfl 1 rfl ?_
  refine r_iconst C (nI 1) dX5_goOn_1 (by decide) ?_
  refine r_isub C dX5_goOn_2 ?_
  refine r_istore_n C [(3, .int ((nI d) - (nI 1))), (0, .ref (ad 130)), (1, .int (nI d)), (2, .int (nI size))] dX5_goOn_3 rfl (by decide) rfl ?_
  have Lp : ∀ (f_t t : Nat) (M3 : Mm), d + 1 ≤ t + f_t → t ≤ d → goI d k bb size t M M3 → VV l D cs ad 4 κ 0 M3 4 [(3, .int (nI (d - t) - nI 1)), (0, .ref (ad 130)), (1, .int (nI d)), (2, .int (nI size))] [] := by
    intro f_t
    induction f_t with
    | zero => intro t M3 hk1_t hk2_t hI_t; exact absurd hk1_t (by omega)
    | succ f_t ih_t =>
      intro t M3 hk1_t hk2_t hI_t
      refine r_iload_n C dX5_goOn_4 rfl 0 rfl ?_
      refine r_if_lt C 43 dX5_goOn_5 (by decide) (fun h5 => ?_) (fun h5 => ?_)
      ·
        have htd : t = d := by have := (plt0 (a := d - t) (by omega)).mp h5; omega
        rw [htd] at hI_t
        exact E 0 _ _ _ (Nat.le_of_ble_eq_true rfl) dX5_goOn_43 (go_e2 hI_t hd4 hb35 hk)
      ·
        have htd : t < d := by have h9 : ¬ d - t = 0 := fun q => h5 ((plt0 (a := d - t) (by omega)).mpr q); omega
        refine r_lve (lv2 := [(3, .int (nI (d - t - 1))), (0, .ref (ad 130)), (1, .int (nI d)), (2, .int (nI size))]) (by rw [pk_sub (by omega)]) ?_
        have hdl : dg k bb t < bb := Nat.mod_lt _ (by omega)
        refine r_aload_n C dX5_goOn_8 rfl 1 rfl ?_
        refine r_get C (Cn := RX5) (T := TX5) (N := 4) (id := 130) (by decide) inw_X5 rfl rfl 2 (by decide) rfl fl_X5_22 rfl dX5_goOn_9 ?_
        refine r_iload_n C dX5_goOn_12 rfl 0 rfl ?_
        refine r_iald C (id := 133) (n := 4) (a := d - t - 1) (by decide) rfl (by omega) (by decide) dX5_goOn_13 ?_
        refine r_topi (w := (nI (dg k bb t) - nI size)) (go_at hI_t htd hd4) ?_
        refine r_iload_n C dX5_goOn_14 rfl 3 rfl ?_
        refine r_icmp_ge C 29 dX5_goOn_15 (by decide) (fun h15 => ?_) (fun h15 => ?_)
        ·
          refine r_aload_n C dX5_goOn_29 rfl 1 rfl ?_
          refine r_get C (Cn := RX5) (T := TX5) (N := 4) (id := 130) (by decide) inw_X5 rfl rfl 2 (by decide) rfl fl_X5_22 rfl dX5_goOn_30 ?_
          refine r_iload_n C dX5_goOn_33 rfl 0 rfl ?_
          refine r_iload_n C dX5_goOn_34 rfl 3 rfl ?_
          refine r_ineg C dX5_goOn_35 ?_
          refine r_topi (w := nI 0 - (nI size)) (ng0 _) ?_
          refine r_iast C (id := 133) (n := 4) (a := d - t - 1) (by decide) (fun _ => rfl) (by omega) (by decide) dX5_goOn_36 ?_
          refine r_iinc C ((nI (d - t - 1) - nI 1)) [(3, .int (nI (d - t - 1) - nI 1)), (0, .ref (ad 130)), (1, .int (nI d)), (2, .int (nI size))] dX5_goOn_37 (j := 0) rfl (nIm1 _) (by decide) rfl ?_
          refine r_goto C 4 dX5_goOn_40 (by decide) ?_
          refine r_lv (lv2 := [(3, .int (nI (d - (t + 1)) - nI 1)), (0, .ref (ad 130)), (1, .int (nI d)), (2, .int (nI size))]) [0, 1, 2, 3] rfl ?_
          exact ih_t (t + 1) _ (by omega) (by omega) (go_s hI_t htd hd4 hb35 hk (by have := (dg_ge hs2 (by omega)).mp h15; omega))
        ·
          refine r_aload_n C dX5_goOn_18 rfl 1 rfl ?_
          refine r_get C (Cn := RX5) (T := TX5) (N := 4) (id := 130) (by decide) inw_X5 rfl rfl 2 (by decide) rfl fl_X5_22 rfl dX5_goOn_19 ?_
          refine r_iload_n C dX5_goOn_22 rfl 0 rfl ?_
          refine r_dup2_11 C dX5_goOn_23 rfl rfl ?_
          refine r_iald C (id := 133) (n := 4) (a := d - t - 1) (by decide) rfl (by omega) (by decide) dX5_goOn_24 ?_
          refine r_topi (w := (nI (dg k bb t) - nI size)) (go_at hI_t htd hd4) ?_
          refine r_iconst C (nI 1) dX5_goOn_25 (by decide) ?_
          refine r_iadd C dX5_goOn_26 ?_
          refine r_topi (w := nI (dg k bb t + 1) - nI size) (dg_1 _ _) ?_
          refine r_iast C (id := 133) (n := 4) (a := d - t - 1) (by decide) (fun _ => rfl) (by omega) (by decide) dX5_goOn_27 ?_
          exact E 0 _ _ _ (Nat.le_of_ble_eq_true rfl) dX5_goOn_28 (go_e1 hI_t htd hd4 hb35 hk (by have : ¬ dg k bb t = 2 * size := fun q => h15 ((dg_ge hs2 (by omega)).mpr q); omega) rfl)
  refine r_lv (lv2 := [(3, .int (nI (d - 0) - nI 1)), (0, .ref (ad 130)), (1, .int (nI d)), (2, .int (nI size))]) [0, 1, 2, 3] rfl ?_
  exact Lp (d + 1) 0 _ (by omega) (by omega) ⟨o1.rf _ _, fun p hp => by rw [if_neg (by omega)]; exact htr p hp, by rw [Nat.pow_zero]; exact Nat.mod_one k⟩
