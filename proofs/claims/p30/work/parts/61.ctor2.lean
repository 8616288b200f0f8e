theorem fill8 (f : Nat → Int32) (x : Int32) : upd (upd (upd (upd (upd (upd (upd (upd f 0 x) 1 x) 2 x) 3 x) 4 x) 5 x) 6 x) 7 x = fun j => if j < 8 then x else f j := by
  funext j
  by_cases h : j < 8
  · rw [if_pos h]
    rcases (show j = 0 ∨ j = 1 ∨ j = 2 ∨ j = 3 ∨ j = 4 ∨ j = 5 ∨ j = 6 ∨ j = 7 by omega) with rfl | rfl | rfl | rfl | rfl | rfl | rfl | rfl <;> rfl
  · rw [if_neg h]
    unfold upd
    rw [if_neg (by omega), if_neg (by omega), if_neg (by omega), if_neg (by omega), if_neg (by omega), if_neg (by omega), if_neg (by omega), if_neg (by omega)]
theorem row_mna {ad r : Nat → Nat} {q : Nat} (j : Nat) (h : j < 8) : uN (cN ad 4 r) 12 q (4 + j) = r j := by
  unfold uN cN
  rw [if_neg (by omega), if_neg (by omega), Nat.add_sub_cancel_left]
theorem row_8 {f g : Nat → Option Nat} {c : ClassId} (h : ∀ j, j < 8 → f j = g j) : vq_row c 8 (fun j => if j < 8 then f j else none) = vq_row c 8 (fun j => if j < 8 then g j else none) := by
  have e : (fun j => if j < 8 then f j else none) = fun j => if j < 8 then g j else none := funext fun j => by
    by_cases q : j < 8
    · rw [if_pos q, if_pos q, h j q]
    · rw [if_neg q, if_neg q]
  rw [e]
set_option maxRecDepth 100000 in
set_option maxHeartbeats 4000000 in
theorem i_fill (l : Launch) (D : va_G) (cs : Nat → ClassId) (a : Nat) (f : Nat → Int32) (sz : Nat) : Met l yJ7_fill_53178 (.code yJ7_fill_53178 cJ7_fill_53178 4 none :: TT) { frames := 0, cells := 0, slots := 0, locals := 0 } (va_Pc [.ref a, .int (nI 1)] (KP D cs (fun _ => a) (fun _ => .inl (cs 0, 8, .inl f)) 1 sz)) (va_Qv (fun _ : Unit => True) (fun _ U => va_P D vwCl (aW (fun _ => a) (fun _ => .inl (cs 0, 8, .inl (fun j => if j < 8 then nI 1 else f j))) 1) U.heap) (oA (fun _ => a) 1 sz)) 0 0 (oA (fun _ => a) 1 sz) := by
  refine st_E (by decide) (Nat.le_of_ble_eq_true rfl) (fun κ C hI E => ?_)
  refine e_lv (lv2 := [(0, .ref a), (1, .int (nI 1))]) [0, 1] rfl ?_
  refine e_iconst C (nI 0) dJ7_fill_53178_0 (by decide) ?_
  refine e_istore_n C [(2, .int (nI 0)), (0, .ref a), (1, .int (nI 1))] dJ7_fill_53178_1 rfl (by decide) rfl ?_
  refine e_aload_n C dJ7_fill_53178_2 rfl 1 rfl ?_
  refine e_alen C (id := 0) (by decide) rfl rfl (v := nI 8) rfl dJ7_fill_53178_3 ?_
  refine e_istore_n C [(3, .int (nI 8)), (2, .int (nI 0)), (0, .ref a), (1, .int (nI 1))] dJ7_fill_53178_4 rfl (by decide) rfl ?_
  refine e_iload_n C dJ7_fill_53178_5 rfl 1 rfl ?_
  refine e_iload_n C dJ7_fill_53178_6 rfl 0 rfl ?_
  refine e_icmp_ge C 20 dJ7_fill_53178_7 (by decide) (fun h => absurd h (by decide)) (fun _ => ?_)
  refine e_aload_n C dJ7_fill_53178_10 rfl 2 rfl ?_
  refine e_iload_n C dJ7_fill_53178_11 rfl 1 rfl ?_
  refine e_iload_n C dJ7_fill_53178_12 rfl 3 rfl ?_
  refine e_iast C (id := 0) (by decide) rfl rfl (by unfold vp_in; decide) (k9 := 0) (by decide) dJ7_fill_53178_13 ?_
  refine e_iinc C (nI 1) [(2, .int (nI 1)), (3, .int (nI 8)), (0, .ref a), (1, .int (nI 1))] dJ7_fill_53178_14 (j := 1) rfl (by decide) (by decide) rfl ?_
  refine e_goto C 5 dJ7_fill_53178_17 (by decide) ?_
  refine e_iload_n C dJ7_fill_53178_5 rfl 0 rfl ?_
  refine e_iload_n C dJ7_fill_53178_6 rfl 1 rfl ?_
  refine e_icmp_ge C 20 dJ7_fill_53178_7 (by decide) (fun h => absurd h (by decide)) (fun _ => ?_)
  refine e_aload_n C dJ7_fill_53178_10 rfl 2 rfl ?_
  refine e_iload_n C dJ7_fill_53178_11 rfl 0 rfl ?_
  refine e_iload_n C dJ7_fill_53178_12 rfl 3 rfl ?_
  refine e_iast C (id := 0) (by decide) rfl rfl (by unfold vp_in; decide) (k9 := 1) (by decide) dJ7_fill_53178_13 ?_
  refine e_iinc C (nI 2) [(2, .int (nI 2)), (3, .int (nI 8)), (0, .ref a), (1, .int (nI 1))] dJ7_fill_53178_14 (j := 0) rfl (by decide) (by decide) rfl ?_
  refine e_goto C 5 dJ7_fill_53178_17 (by decide) ?_
  refine e_iload_n C dJ7_fill_53178_5 rfl 0 rfl ?_
  refine e_iload_n C dJ7_fill_53178_6 rfl 1 rfl ?_
  refine e_icmp_ge C 20 dJ7_fill_53178_7 (by decide) (fun h => absurd h (by decide)) (fun _ => ?_)
  refine e_aload_n C dJ7_fill_53178_10 rfl 2 rfl ?_
  refine e_iload_n C dJ7_fill_53178_11 rfl 0 rfl ?_
  refine e_iload_n C dJ7_fill_53178_12 rfl 3 rfl ?_
  refine e_iast C (id := 0) (by decide) rfl rfl (by unfold vp_in; decide) (k9 := 2) (by decide) dJ7_fill_53178_13 ?_
  refine e_iinc C (nI 3) [(2, .int (nI 3)), (3, .int (nI 8)), (0, .ref a), (1, .int (nI 1))] dJ7_fill_53178_14 (j := 0) rfl (by decide) (by decide) rfl ?_
  refine e_goto C 5 dJ7_fill_53178_17 (by decide) ?_
  refine e_iload_n C dJ7_fill_53178_5 rfl 0 rfl ?_
  refine e_iload_n C dJ7_fill_53178_6 rfl 1 rfl ?_
  refine e_icmp_ge C 20 dJ7_fill_53178_7 (by decide) (fun h => absurd h (by decide)) (fun _ => ?_)
  refine e_aload_n C dJ7_fill_53178_10 rfl 2 rfl ?_
  refine e_iload_n C dJ7_fill_53178_11 rfl 0 rfl ?_
  refine e_iload_n C dJ7_fill_53178_12 rfl 3 rfl ?_
  refine e_iast C (id := 0) (by decide) rfl rfl (by unfold vp_in; decide) (k9 := 3) (by decide) dJ7_fill_53178_13 ?_
  refine e_iinc C (nI 4) [(2, .int (nI 4)), (3, .int (nI 8)), (0, .ref a), (1, .int (nI 1))] dJ7_fill_53178_14 (j := 0) rfl (by decide) (by decide) rfl ?_
  refine e_goto C 5 dJ7_fill_53178_17 (by decide) ?_
  refine e_iload_n C dJ7_fill_53178_5 rfl 0 rfl ?_
  refine e_iload_n C dJ7_fill_53178_6 rfl 1 rfl ?_
  refine e_icmp_ge C 20 dJ7_fill_53178_7 (by decide) (fun h => absurd h (by decide)) (fun _ => ?_)
  refine e_aload_n C dJ7_fill_53178_10 rfl 2 rfl ?_
  refine e_iload_n C dJ7_fill_53178_11 rfl 0 rfl ?_
  refine e_iload_n C dJ7_fill_53178_12 rfl 3 rfl ?_
  refine e_iast C (id := 0) (by decide) rfl rfl (by unfold vp_in; decide) (k9 := 4) (by decide) dJ7_fill_53178_13 ?_
  refine e_iinc C (nI 5) [(2, .int (nI 5)), (3, .int (nI 8)), (0, .ref a), (1, .int (nI 1))] dJ7_fill_53178_14 (j := 0) rfl (by decide) (by decide) rfl ?_
  refine e_goto C 5 dJ7_fill_53178_17 (by decide) ?_
  refine e_iload_n C dJ7_fill_53178_5 rfl 0 rfl ?_
  refine e_iload_n C dJ7_fill_53178_6 rfl 1 rfl ?_
  refine e_icmp_ge C 20 dJ7_fill_53178_7 (by decide) (fun h => absurd h (by decide)) (fun _ => ?_)
  refine e_aload_n C dJ7_fill_53178_10 rfl 2 rfl ?_
  refine e_iload_n C dJ7_fill_53178_11 rfl 0 rfl ?_
  refine e_iload_n C dJ7_fill_53178_12 rfl 3 rfl ?_
  refine e_iast C (id := 0) (by decide) rfl rfl (by unfold vp_in; decide) (k9 := 5) (by decide) dJ7_fill_53178_13 ?_
  refine e_iinc C (nI 6) [(2, .int (nI 6)), (3, .int (nI 8)), (0, .ref a), (1, .int (nI 1))] dJ7_fill_53178_14 (j := 0) rfl (by decide) (by decide) rfl ?_
  refine e_goto C 5 dJ7_fill_53178_17 (by decide) ?_
  refine e_iload_n C dJ7_fill_53178_5 rfl 0 rfl ?_
  refine e_iload_n C dJ7_fill_53178_6 rfl 1 rfl ?_
  refine e_icmp_ge C 20 dJ7_fill_53178_7 (by decide) (fun h => absurd h (by decide)) (fun _ => ?_)
  refine e_aload_n C dJ7_fill_53178_10 rfl 2 rfl ?_
  refine e_iload_n C dJ7_fill_53178_11 rfl 0 rfl ?_
  refine e_iload_n C dJ7_fill_53178_12 rfl 3 rfl ?_
  refine e_iast C (id := 0) (by decide) rfl rfl (by unfold vp_in; decide) (k9 := 6) (by decide) dJ7_fill_53178_13 ?_
  refine e_iinc C (nI 7) [(2, .int (nI 7)), (3, .int (nI 8)), (0, .ref a), (1, .int (nI 1))] dJ7_fill_53178_14 (j := 0) rfl (by decide) (by decide) rfl ?_
  refine e_goto C 5 dJ7_fill_53178_17 (by decide) ?_
  refine e_iload_n C dJ7_fill_53178_5 rfl 0 rfl ?_
  refine e_iload_n C dJ7_fill_53178_6 rfl 1 rfl ?_
  refine e_icmp_ge C 20 dJ7_fill_53178_7 (by decide) (fun h => absurd h (by decide)) (fun _ => ?_)
  refine e_aload_n C dJ7_fill_53178_10 rfl 2 rfl ?_
  refine e_iload_n C dJ7_fill_53178_11 rfl 0 rfl ?_
  refine e_iload_n C dJ7_fill_53178_12 rfl 3 rfl ?_
  refine e_iast C (id := 0) (by decide) rfl rfl (by unfold vp_in; decide) (k9 := 7) (by decide) dJ7_fill_53178_13 ?_
  refine e_iinc C (nI 8) [(2, .int (nI 8)), (3, .int (nI 8)), (0, .ref a), (1, .int (nI 1))] dJ7_fill_53178_14 (j := 0) rfl (by decide) (by decide) rfl ?_
  refine e_goto C 5 dJ7_fill_53178_17 (by decide) ?_
  refine e_iload_n C dJ7_fill_53178_5 rfl 0 rfl ?_
  refine e_iload_n C dJ7_fill_53178_6 rfl 1 rfl ?_
  refine e_icmp_ge C 20 dJ7_fill_53178_7 (by decide) (fun _ => ?_) (fun h => absurd (by decide) h)
  refine E _ _ _ _ _ _ _ (by decide) (by decide) dJ7_fill_53178_20 (fun U hP hD => ⟨(), trivial, ?_⟩)
  rw [aW_cg (ad2 := fun _ => a) (G := fun _ => .inl (cs 0, 8, .inl (fun j => if j < 8 then nI 1 else f j))) (fun i hi => ⟨rfl, ?_⟩)] at hP
  · exact hP
  · obtain rfl : i = 0 := by omega
    exact congrArg (fun g => (Sum.inl (cs 0, 8, Sum.inl g) : va_E)) (fill8 f (nI 1))
set_option maxRecDepth 100000 in
set_option maxHeartbeats 4000000 in
theorem i_X4 (l : Launch) (D : va_G) (cs : Nat → ClassId) (b sz : Nat) : Met l yX4_init (.code yX4_init cX4_init 1 none :: TT) { frames := 1, cells := 12, slots := 60, locals := 23 } (va_Pc [.ref b] (KP D cs (fun _ => b) (fun _ => .inr (4, [.int 0, .int 0, .null, .null, .null, .null])) 1 sz)) (va_Qv (fun u : Nat → Nat => u 0 = b) (KQ D (oA (fun _ => b) 1 sz) (T4 cs) 13) (oA (fun _ => b) 1 sz)) 12 60 (oA (fun _ => b) 1 sz) := by
  refine st_E (by decide) (Nat.le_of_ble_eq_true rfl) (fun κ C hI E => ?_)
  refine e_lv (lv2 := [(0, .ref b)]) [0] rfl ?_
  refine e_aload_n C dX4_init_0 rfl 0 rfl ?_
  refine e_oinit C ml_X4_3 dX4_init_1 (Nat.le_of_ble_eq_true rfl) (Nat.le_of_ble_eq_true rfl) ?_
  refine e_aload_n C dX4_init_4 rfl 0 rfl ?_
  refine e_iconst C (nI 4) dX4_init_5 (by decide) ?_
  refine e_put C (Cn := RX4) (T := TX4) (N := 6) (id := 0) (by decide) inw_X4 tyX4_ok nmX4 rfl rfl rfl 0 (by decide) rfl fl_X4_9 rfl (by first | rfl | decide) (by first | rfl | decide) (Nat.le_of_ble_eq_true rfl) dX4_init_6 ?_
  refine e_aload_n C dX4_init_9 rfl 0 rfl ?_
  refine e_iconst C (nI 3) dX4_init_10 (by decide) ?_
  refine e_put C (Cn := RX4) (T := TX4) (N := 6) (id := 0) (by decide) inw_X4 tyX4_ok nmX4 rfl rfl rfl 1 (by decide) rfl fl_X4_15 rfl (by first | rfl | decide) (by first | rfl | decide) (Nat.le_of_ble_eq_true rfl) dX4_init_11 ?_
  refine e_aload_n C dX4_init_14 rfl 0 rfl ?_
  refine e_bipush C (nI 8) dX4_init_15 (by decide) ?_
  refine e_newa C (ty := .int) ac_int rfl 0 rfl (fun _ h => h) (N := 8) (a0 := (8, .inl (fun _ => 0))) (fun _ => rfl) (by decide) (by decide) (by decide) (by decide) (by decide) dX4_init_17 (fun q0 => ?_)
  refine e_putF C hI (Cn := RX4) (T := TX4) (N := 6) (id := 0) (by decide) inw_X4 tyX4_ok nmX4 rfl rfl rfl 2 (by decide) rfl fl_X4_18 rfl rfl (by first | rfl | decide) (by first | rfl | decide) (Nat.le_of_ble_eq_true rfl) dX4_init_19 ?_
  refine e_aload_n C dX4_init_22 rfl 0 rfl ?_
  refine e_bipush C (nI 8) dX4_init_23 (by decide) ?_
  refine e_newa C (ty := .int) ac_int rfl 0 rfl (fun _ h => h) (N := 8) (a0 := (8, .inl (fun _ => 0))) (fun _ => rfl) (by decide) (by decide) (by decide) (by decide) (by decide) dX4_init_25 (fun q1 => ?_)
  refine e_putF C hI (Cn := RX4) (T := TX4) (N := 6) (id := 0) (by decide) inw_X4 tyX4_ok nmX4 rfl rfl rfl 3 (by decide) rfl fl_X4_22 rfl rfl (by first | rfl | decide) (by first | rfl | decide) (Nat.le_of_ble_eq_true rfl) dX4_init_27 ?_
  refine e_aload_n C dX4_init_30 rfl 0 rfl ?_
  refine e_bipush C (nI 8) dX4_init_31 (by decide) ?_
  refine e_iconst C (nI 4) dX4_init_33 (by decide) ?_
  refine e_mna C cl_X4_25 (by decide) (by decide) dX4_init_34 (fun q2 r2 => ?_)
  refine e_putF C hI (Cn := RX4) (T := TX4) (N := 6) (id := 0) (by decide) inw_X4 tyX4_ok nmX4 rfl rfl rfl 4 (by decide) rfl fl_X4_27 rfl rfl (by first | rfl | decide) (by first | rfl | decide) (Nat.le_of_ble_eq_true rfl) dX4_init_38 ?_
  refine e_aload_n C dX4_init_41 rfl 0 rfl ?_
  refine e_iconst C (nI 4) dX4_init_42 (by decide) ?_
  refine e_newa C (ty := .int) ac_int rfl 0 rfl (fun _ h => h) (N := 4) (a0 := (4, .inl (fun _ => 0))) (fun _ => rfl) (by decide) (by decide) (by decide) (by decide) (by decide) dX4_init_43 (fun q3 => ?_)
  refine e_putF C hI (Cn := RX4) (T := TX4) (N := 6) (id := 0) (by decide) inw_X4 tyX4_ok nmX4 rfl rfl rfl 5 (by decide) rfl fl_X4_30 rfl rfl (by first | rfl | decide) (by first | rfl | decide) (Nat.le_of_ble_eq_true rfl) dX4_init_45 ?_
  refine e_aload_n C dX4_init_48 rfl 0 rfl ?_
  refine e_get C (Cn := RX4) (T := TX4) (N := 6) (id := 0) (by decide) inw_X4 rfl rfl rfl 3 (by decide) rfl fl_X4_22 rfl dX4_init_49 ?_
  refine e_iconst C (nI 1) dX4_init_52 (by decide) ?_
  refine e_fill C (id := 2) (fun a9 sz9 => i_fill l D cs a9 (fun _ => 0) sz9) (by decide) rfl rfl ml_X4_33 (by decide) (by decide) (by decide) (by decide) dX4_init_53 ?_
  refine e_fin E (n2 := 13) (F2 := T4 cs) rfl (by decide) (by decide) dX4_init_56 rfl (fun ad hAD => ?_)
  exact (bl_s (bl_s (bl_s (bl_s (bl_s (bl_s (bl_s (bl_s (bl_s (bl_s (bl_s (bl_s (bl_s bl_0 (by rw [hAD]; rfl)) (by rw [hAD]; rfl)) (by rw [hAD]; rfl)) (show vq_row (cs 4) 8 (fun i => if i < 8 then some (r2 i) else none) = vq_row (cs 4) 8 (fun j => if j < 8 then some (ad (4 + j)) else none) from row_8 (fun j hj => by rw [hAD]; exact congrArg some (row_mna j hj).symm))) (by rw [hAD]; rfl)) (by rw [hAD]; rfl)) (by rw [hAD]; rfl)) (by rw [hAD]; rfl)) (by rw [hAD]; rfl)) (by rw [hAD]; rfl)) (by rw [hAD]; rfl)) (by rw [hAD]; rfl)) (by rw [hAD]; rfl))
set_option maxRecDepth 100000 in
set_option maxHeartbeats 4000000 in
theorem i_X5 (l : Launch) (D : va_G) (cs : Nat → ClassId) (b sz : Nat) : Met l yX5_init (.code yX5_init cX5_init 1 none :: TT) { frames := 2, cells := 4, slots := 16, locals := 32 } (va_Pc [.ref b] (KP D cs (fun _ => b) (fun _ => .inr (5, [.null, .null, .null, .null])) 1 sz)) (va_Qv (fun u : Nat → Nat => u 0 = b) (KQ D (oA (fun _ => b) 1 sz) (T5 cs) 5) (oA (fun _ => b) 1 sz)) 4 16 (oA (fun _ => b) 1 sz) := by
  refine st_E (by decide) (Nat.le_of_ble_eq_true rfl) (fun κ C hI E => ?_)
  refine e_lv (lv2 := [(0, .ref b)]) [0] rfl ?_
  refine e_aload_n C dX5_init_0 rfl 0 rfl ?_
  refine e_oinit C ml_X5_3 dX5_init_1 (Nat.le_of_ble_eq_true rfl) (Nat.le_of_ble_eq_true rfl) ?_
  refine e_aload_n C dX5_init_4 rfl 0 rfl ?_
  refine e_iconst C (nI 4) dX5_init_5 (by decide) ?_
  refine e_newa C (ty := .int) ac_int rfl 0 rfl (fun _ h => h) (N := 4) (a0 := (4, .inl (fun _ => 0))) (fun _ => rfl) (by decide) (by decide) (by decide) (by decide) (by decide) dX5_init_6 (fun q0 => ?_)
  refine e_putF C hI (Cn := RX5) (T := TX5) (N := 4) (id := 0) (by decide) inw_X5 tyX5_ok nmX5 rfl rfl rfl 0 (by decide) rfl fl_X5_9 rfl rfl (by first | rfl | decide) (by first | rfl | decide) (Nat.le_of_ble_eq_true rfl) dX5_init_8 ?_
  refine e_aload_n C dX5_init_11 rfl 0 rfl ?_
  refine e_new C (ci := 0) (fs := [.int 0, .long 0, .long 0, .int 0]) inw_X0 tyX0 tyX0_ok cl_X5_15 ib_X0 in_X0 rfl (fun j hj => by rcases (show j = 0 ∨ j = 1 ∨ j = 2 ∨ j = 3 by omega) with rfl | rfl | rfl | rfl <;> rfl) (by decide) (by decide) dX5_init_12 (fun q1 => ?_)
  refine e_dup C dX5_init_15 rfl ?_
  refine e_callIN C (F2 := T0 cs) (n2 := 1) (fun b9 sz9 => i_X0 l D cs b9 sz9) co_X0_init in_X0 (List.mem_of_getElem? (i := 5) rfl) im_X0_init rfl ⟨rfl, rfl⟩ ⟨by decide, by decide, by decide⟩ ⟨Nat.le_of_ble_eq_true rfl, Nat.le_of_ble_eq_true rfl⟩ rfl rfl (Nat.le_of_ble_eq_true rfl) (by decide) (by decide) dX5_init_16 (fun u2 hu2 => ?_)
  subst hu2
  refine e_putF C hI (Cn := RX5) (T := TX5) (N := 4) (id := 0) (by decide) inw_X5 tyX5_ok nmX5 rfl rfl rfl 1 (by decide) rfl fl_X5_18 rfl rfl (by first | rfl | decide) (by first | rfl | decide) (Nat.le_of_ble_eq_true rfl) dX5_init_19 ?_
  refine e_aload_n C dX5_init_22 rfl 0 rfl ?_
  refine e_iconst C (nI 4) dX5_init_23 (by decide) ?_
  refine e_newa C (ty := .int) ac_int rfl 0 rfl (fun _ h => h) (N := 4) (a0 := (4, .inl (fun _ => 0))) (fun _ => rfl) (by decide) (by decide) (by decide) (by decide) (by decide) dX5_init_24 (fun q3 => ?_)
  refine e_putF C hI (Cn := RX5) (T := TX5) (N := 4) (id := 0) (by decide) inw_X5 tyX5_ok nmX5 rfl rfl rfl 2 (by decide) rfl fl_X5_22 rfl rfl (by first | rfl | decide) (by first | rfl | decide) (Nat.le_of_ble_eq_true rfl) dX5_init_26 ?_
  refine e_aload_n C dX5_init_29 rfl 0 rfl ?_
  refine e_new C (ci := 0) (fs := [.int 0, .long 0, .long 0, .int 0]) inw_X0 tyX0 tyX0_ok cl_X5_15 ib_X0 in_X0 rfl (fun j hj => by rcases (show j = 0 ∨ j = 1 ∨ j = 2 ∨ j = 3 by omega) with rfl | rfl | rfl | rfl <;> rfl) (by decide) (by decide) dX5_init_30 (fun q4 => ?_)
  refine e_dup C dX5_init_33 rfl ?_
  refine e_callIN C (F2 := T0 cs) (n2 := 1) (fun b9 sz9 => i_X0 l D cs b9 sz9) co_X0_init in_X0 (List.mem_of_getElem? (i := 5) rfl) im_X0_init rfl ⟨rfl, rfl⟩ ⟨by decide, by decide, by decide⟩ ⟨Nat.le_of_ble_eq_true rfl, Nat.le_of_ble_eq_true rfl⟩ rfl rfl (Nat.le_of_ble_eq_true rfl) (by decide) (by decide) dX5_init_34 (fun u5 hu5 => ?_)
  subst hu5
  refine e_putF C hI (Cn := RX5) (T := TX5) (N := 4) (id := 0) (by decide) inw_X5 tyX5_ok nmX5 rfl rfl rfl 3 (by decide) rfl fl_X5_25 rfl rfl (by first | rfl | decide) (by first | rfl | decide) (Nat.le_of_ble_eq_true rfl) dX5_init_37 ?_
  refine e_fin E (n2 := 5) (F2 := T5 cs) rfl (by decide) (by decide) dX5_init_40 rfl (fun ad hAD => ?_)
  exact (bl_s (bl_s (bl_s (bl_s (bl_s bl_0 (by rw [hAD]; rfl)) (by rw [hAD]; rfl)) (by rw [hAD]; rfl)) (by rw [hAD]; rfl)) (by rw [hAD]; rfl))
