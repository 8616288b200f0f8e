theorem row_up6 {g : Nat → Nat} {a0 a1 a2 a3 a4 a5 : Nat} (h0 : a0 = g 0) (h1 : a1 = g 1) (h2 : a2 = g 2) (h3 : a3 = g 3) (h4 : a4 = g 4) (h5 : a5 = g 5) : va_up (va_up (va_up (va_up (va_up (va_up (fun _ => none) 0 (some a0)) 1 (some a1)) 2 (some a2)) 3 (some a3)) 4 (some a4)) 5 (some a5) = fun j => if j < 6 then some (g j) else none := by
  subst h0 h1 h2 h3 h4 h5
  funext j
  by_cases h : j < 6
  · rw [if_pos h]
    rcases (show j = 0 ∨ j = 1 ∨ j = 2 ∨ j = 3 ∨ j = 4 ∨ j = 5 by omega) with rfl | rfl | rfl | rfl | rfl | rfl <;> rfl
  · rw [if_neg h]
    unfold va_up
    rw [if_neg (by omega), if_neg (by omega), if_neg (by omega), if_neg (by omega), if_neg (by omega), if_neg (by omega)]
theorem row_up2 {g : Nat → Nat} {a0 a1 : Nat} (h0 : a0 = g 0) (h1 : a1 = g 1) : va_up (va_up (fun _ => none) 0 (some a0)) 1 (some a1) = fun j => if j < 2 then some (g j) else none := by
  subst h0 h1
  funext j
  by_cases h : j < 2
  · rw [if_pos h]
    rcases (show j = 0 ∨ j = 1 by omega) with rfl | rfl <;> rfl
  · rw [if_neg h]
    unfold va_up
    rw [if_neg (by omega), if_neg (by omega)]
theorem T6_cg {cs : Nat → ClassId} {u v : Nat → Nat} (h : ∀ j, j < 81 → u j = v j) (i : Nat) (hi : i < 81) : T6 cs u i = T6 cs v i := by
  unfold T6
  rw [h 1 (by decide), h 2 (by decide)]
  have e : (fun j => if j < 6 then some (u (3 + 13 * j)) else none) = fun j => if j < 6 then some (v (3 + 13 * j)) else none := funext fun j => by
    by_cases q : j < 6
    · rw [if_pos q, if_pos q, h (3 + 13 * j) (by omega)]
    · rw [if_neg q, if_neg q]
  rw [e]
  by_cases q : i < 3
  · rcases (show i = 0 ∨ i = 1 ∨ i = 2 by omega) with rfl | rfl | rfl <;> rfl
  · rw [if_neg (by omega), if_neg (by omega), if_neg (by omega), if_neg (by omega), if_neg (by omega), if_neg (by omega)]
    exact T4_cg (fun j hj => h _ (by omega)) _
set_option maxRecDepth 100000 in
set_option maxHeartbeats 4000000 in
theorem i_X6 (l : Launch) (D : va_G) (cs : Nat → ClassId) (b sz : Nat) : Met l yX6_init (.code yX6_init cX6_init 2 none :: TT) { frames := 2, cells := 80, slots := 408, locals := 43 } (va_Pc [.ref b] (KP D cs (fun _ => b) (fun _ => .inr (6, [.null, .null, .int 0, .int 0])) 1 sz)) (va_Qv (fun u : Nat → Nat => u 0 = b) (KQ D (oA (fun _ => b) 1 sz) (T6 cs) 81) (oA (fun _ => b) 1 sz)) 80 408 (oA (fun _ => b) 1 sz) := by
  refine st_E (by decide) (Nat.le_of_ble_eq_true rfl) (fun κ C hI E => ?_)
  refine e_lv (lv2 := [(0, .ref b)]) [0] rfl ?_
  refine e_aload_n C dX6_init_0 rfl 0 rfl ?_
  refine e_oinit C ml_X6_3 dX6_init_1 (Nat.le_of_ble_eq_true rfl) (Nat.le_of_ble_eq_true rfl) ?_
  refine e_aload_n C dX6_init_4 rfl 0 rfl ?_
  refine e_bipush C (nI 6) dX6_init_5 (by decide) ?_
  refine e_newq C cl_X6_9 (N := 6) (by decide) (by decide) (by decide) (by decide) (by decide) dX6_init_7 (fun q0 => ?_)
  refine e_putF C hI (Cn := RX6) (T := TX6) (N := 4) (id := 0) (by decide) inw_X6 tyX6_ok nmX6 rfl rfl rfl 0 (by decide) rfl fl_X6_11 rfl rfl (by first | rfl | decide) (by first | rfl | decide) (Nat.le_of_ble_eq_true rfl) dX6_init_10 ?_
  refine e_aload_n C dX6_init_13 rfl 0 rfl ?_
  refine e_bipush C (nI 6) dX6_init_14 (by decide) ?_
  refine e_newa C (ty := .int) ac_int rfl 0 rfl (fun _ h => h) (N := 6) (a0 := (6, .inl (fun _ => 0))) (fun _ => rfl) (by decide) (by decide) (by decide) (by decide) (by decide) dX6_init_16 (fun q1 => ?_)
  refine e_putF C hI (Cn := RX6) (T := TX6) (N := 4) (id := 0) (by decide) inw_X6 tyX6_ok nmX6 rfl rfl rfl 1 (by decide) rfl fl_X6_17 rfl rfl (by first | rfl | decide) (by first | rfl | decide) (Nat.le_of_ble_eq_true rfl) dX6_init_18 ?_
  refine e_aload_n C dX6_init_21 rfl 0 rfl ?_
  refine e_iconst C (nI 0) dX6_init_22 (by decide) ?_
  refine e_put C (Cn := RX6) (T := TX6) (N := 4) (id := 0) (by decide) inw_X6 tyX6_ok nmX6 rfl rfl rfl 2 (by decide) rfl fl_X6_21 rfl (by first | rfl | decide) (by first | rfl | decide) (Nat.le_of_ble_eq_true rfl) dX6_init_23 ?_
  refine e_aload_n C dX6_init_26 rfl 0 rfl ?_
  refine e_iconst C (nI 0) dX6_init_27 (by decide) ?_
  refine e_put C (Cn := RX6) (T := TX6) (N := 4) (id := 0) (by decide) inw_X6 tyX6_ok nmX6 rfl rfl rfl 3 (by decide) rfl fl_X6_25 rfl (by first | rfl | decide) (by first | rfl | decide) (Nat.le_of_ble_eq_true rfl) dX6_init_28 ?_
  refine e_iconst C (nI 0) dX6_init_31 (by decide) ?_
  refine e_istore_n C [(1, .int (nI 0)), (0, .ref b)] dX6_init_32 rfl (by decide) rfl ?_
  refine e_iload_n C dX6_init_33 rfl 0 rfl ?_
  refine e_bipush C (nI 6) dX6_init_34 (by decide) ?_
  refine e_icmp_ge C 58 dX6_init_36 (by decide) (fun h => absurd h (by decide)) (fun _ => ?_)
  refine e_aload_n C dX6_init_39 rfl 1 rfl ?_
  refine e_get C (Cn := RX6) (T := TX6) (N := 4) (id := 0) (by decide) inw_X6 rfl rfl rfl 0 (by decide) rfl fl_X6_11 rfl dX6_init_40 ?_
  refine e_iload_n C dX6_init_43 rfl 0 rfl ?_
  refine e_new C (ci := 4) (fs := [.int 0, .int 0, .null, .null, .null, .null]) inw_X4 tyX4 tyX4_ok cl_X6_9 ib_X4 in_X4 rfl (fun j hj => by rcases (show j = 0 ∨ j = 1 ∨ j = 2 ∨ j = 3 ∨ j = 4 ∨ j = 5 by omega) with rfl | rfl | rfl | rfl | rfl | rfl <;> rfl) (by decide) (by decide) dX6_init_44 (fun q2 => ?_)
  refine e_dup C dX6_init_47 rfl ?_
  refine e_callI C (F2 := T4 cs) (n2 := 13) (fun b9 sz9 => i_X4 l D cs b9 sz9) co_X4_init in_X4 ml_X6_28 im_X4_init rfl ⟨rfl, rfl⟩ ⟨by decide, by decide, by decide⟩ ⟨Nat.le_of_ble_eq_true rfl, Nat.le_of_ble_eq_true rfl⟩ rfl rfl (Nat.le_of_ble_eq_true rfl) (by decide) (by decide) dX6_init_48 (fun u3 hu3 => ?_)
  subst hu3
  refine e_astq C (id := 1) (idk := 3) (by decide) rfl rfl (by decide) rfl rfl (by unfold vp_in; decide) (j9 := 0) (by decide) dX6_init_51 ?_
  refine e_iinc C (nI 1) [(1, .int (nI 1)), (0, .ref b)] dX6_init_52 (j := 0) rfl (by decide) (by decide) rfl ?_
  refine e_goto C 33 dX6_init_55 (by decide) ?_
  refine e_iload_n C dX6_init_33 rfl 0 rfl ?_
  refine e_bipush C (nI 6) dX6_init_34 (by decide) ?_
  refine e_icmp_ge C 58 dX6_init_36 (by decide) (fun h => absurd h (by decide)) (fun _ => ?_)
  refine e_aload_n C dX6_init_39 rfl 1 rfl ?_
  refine e_get C (Cn := RX6) (T := TX6) (N := 4) (id := 0) (by decide) inw_X6 rfl rfl rfl 0 (by decide) rfl fl_X6_11 rfl dX6_init_40 ?_
  refine e_iload_n C dX6_init_43 rfl 0 rfl ?_
  refine e_new C (ci := 4) (fs := [.int 0, .int 0, .null, .null, .null, .null]) inw_X4 tyX4 tyX4_ok cl_X6_9 ib_X4 in_X4 rfl (fun j hj => by rcases (show j = 0 ∨ j = 1 ∨ j = 2 ∨ j = 3 ∨ j = 4 ∨ j = 5 by omega) with rfl | rfl | rfl | rfl | rfl | rfl <;> rfl) (by decide) (by decide) dX6_init_44 (fun q4 => ?_)
  refine e_dup C dX6_init_47 rfl ?_
  refine e_callI C (F2 := T4 cs) (n2 := 13) (fun b9 sz9 => i_X4 l D cs b9 sz9) co_X4_init in_X4 ml_X6_28 im_X4_init rfl ⟨rfl, rfl⟩ ⟨by decide, by decide, by decide⟩ ⟨Nat.le_of_ble_eq_true rfl, Nat.le_of_ble_eq_true rfl⟩ rfl rfl (Nat.le_of_ble_eq_true rfl) (by decide) (by decide) dX6_init_48 (fun u5 hu5 => ?_)
  subst hu5
  refine e_astq C (id := 1) (idk := 16) (by decide) rfl rfl (by decide) rfl rfl (by unfold vp_in; decide) (j9 := 1) (by decide) dX6_init_51 ?_
  refine e_iinc C (nI 2) [(1, .int (nI 2)), (0, .ref b)] dX6_init_52 (j := 0) rfl (by decide) (by decide) rfl ?_
  refine e_goto C 33 dX6_init_55 (by decide) ?_
  refine e_iload_n C dX6_init_33 rfl 0 rfl ?_
  refine e_bipush C (nI 6) dX6_init_34 (by decide) ?_
  refine e_icmp_ge C 58 dX6_init_36 (by decide) (fun h => absurd h (by decide)) (fun _ => ?_)
  refine e_aload_n C dX6_init_39 rfl 1 rfl ?_
  refine e_get C (Cn := RX6) (T := TX6) (N := 4) (id := 0) (by decide) inw_X6 rfl rfl rfl 0 (by decide) rfl fl_X6_11 rfl dX6_init_40 ?_
  refine e_iload_n C dX6_init_43 rfl 0 rfl ?_
  refine e_new C (ci := 4) (fs := [.int 0, .int 0, .null, .null, .null, .null]) inw_X4 tyX4 tyX4_ok cl_X6_9 ib_X4 in_X4 rfl (fun j hj => by rcases (show j = 0 ∨ j = 1 ∨ j = 2 ∨ j = 3 ∨ j = 4 ∨ j = 5 by omega) with rfl | rfl | rfl | rfl | rfl | rfl <;> rfl) (by decide) (by decide) dX6_init_44 (fun q6 => ?_)
  refine e_dup C dX6_init_47 rfl ?_
  refine e_callI C (F2 := T4 cs) (n2 := 13) (fun b9 sz9 => i_X4 l D cs b9 sz9) co_X4_init in_X4 ml_X6_28 im_X4_init rfl ⟨rfl, rfl⟩ ⟨by decide, by decide, by decide⟩ ⟨Nat.le_of_ble_eq_true rfl, Nat.le_of_ble_eq_true rfl⟩ rfl rfl (Nat.le_of_ble_eq_true rfl) (by decide) (by decide) dX6_init_48 (fun u7 hu7 => ?_)
  subst hu7
  refine e_astq C (id := 1) (idk := 29) (by decide) rfl rfl (by decide) rfl rfl (by unfold vp_in; decide) (j9 := 2) (by decide) dX6_init_51 ?_
  refine e_iinc C (nI 3) [(1, .int (nI 3)), (0, .ref b)] dX6_init_52 (j := 0) rfl (by decide) (by decide) rfl ?_
  refine e_goto C 33 dX6_init_55 (by decide) ?_
  refine e_iload_n C dX6_init_33 rfl 0 rfl ?_
  refine e_bipush C (nI 6) dX6_init_34 (by decide) ?_
  refine e_icmp_ge C 58 dX6_init_36 (by decide) (fun h => absurd h (by decide)) (fun _ => ?_)
  refine e_aload_n C dX6_init_39 rfl 1 rfl ?_
  refine e_get C (Cn := RX6) (T := TX6) (N := 4) (id := 0) (by decide) inw_X6 rfl rfl rfl 0 (by decide) rfl fl_X6_11 rfl dX6_init_40 ?_
  refine e_iload_n C dX6_init_43 rfl 0 rfl ?_
  refine e_new C (ci := 4) (fs := [.int 0, .int 0, .null, .null, .null, .null]) inw_X4 tyX4 tyX4_ok cl_X6_9 ib_X4 in_X4 rfl (fun j hj => by rcases (show j = 0 ∨ j = 1 ∨ j = 2 ∨ j = 3 ∨ j = 4 ∨ j = 5 by omega) with rfl | rfl | rfl | rfl | rfl | rfl <;> rfl) (by decide) (by decide) dX6_init_44 (fun q8 => ?_)
  refine e_dup C dX6_init_47 rfl ?_
  refine e_callI C (F2 := T4 cs) (n2 := 13) (fun b9 sz9 => i_X4 l D cs b9 sz9) co_X4_init in_X4 ml_X6_28 im_X4_init rfl ⟨rfl, rfl⟩ ⟨by decide, by decide, by decide⟩ ⟨Nat.le_of_ble_eq_true rfl, Nat.le_of_ble_eq_true rfl⟩ rfl rfl (Nat.le_of_ble_eq_true rfl) (by decide) (by decide) dX6_init_48 (fun u9 hu9 => ?_)
  subst hu9
  refine e_astq C (id := 1) (idk := 42) (by decide) rfl rfl (by decide) rfl rfl (by unfold vp_in; decide) (j9 := 3) (by decide) dX6_init_51 ?_
  refine e_iinc C (nI 4) [(1, .int (nI 4)), (0, .ref b)] dX6_init_52 (j := 0) rfl (by decide) (by decide) rfl ?_
  refine e_goto C 33 dX6_init_55 (by decide) ?_
  refine e_iload_n C dX6_init_33 rfl 0 rfl ?_
  refine e_bipush C (nI 6) dX6_init_34 (by decide) ?_
  refine e_icmp_ge C 58 dX6_init_36 (by decide) (fun h => absurd h (by decide)) (fun _ => ?_)
  refine e_aload_n C dX6_init_39 rfl 1 rfl ?_
  refine e_get C (Cn := RX6) (T := TX6) (N := 4) (id := 0) (by decide) inw_X6 rfl rfl rfl 0 (by decide) rfl fl_X6_11 rfl dX6_init_40 ?_
  refine e_iload_n C dX6_init_43 rfl 0 rfl ?_
  refine e_new C (ci := 4) (fs := [.int 0, .int 0, .null, .null, .null, .null]) inw_X4 tyX4 tyX4_ok cl_X6_9 ib_X4 in_X4 rfl (fun j hj => by rcases (show j = 0 ∨ j = 1 ∨ j = 2 ∨ j = 3 ∨ j = 4 ∨ j = 5 by omega) with rfl | rfl | rfl | rfl | rfl | rfl <;> rfl) (by decide) (by decide) dX6_init_44 (fun q10 => ?_)
  refine e_dup C dX6_init_47 rfl ?_
  refine e_callI C (F2 := T4 cs) (n2 := 13) (fun b9 sz9 => i_X4 l D cs b9 sz9) co_X4_init in_X4 ml_X6_28 im_X4_init rfl ⟨rfl, rfl⟩ ⟨by decide, by decide, by decide⟩ ⟨Nat.le_of_ble_eq_true rfl, Nat.le_of_ble_eq_true rfl⟩ rfl rfl (Nat.le_of_ble_eq_true rfl) (by decide) (by decide) dX6_init_48 (fun u11 hu11 => ?_)
  subst hu11
  refine e_astq C (id := 1) (idk := 55) (by decide) rfl rfl (by decide) rfl rfl (by unfold vp_in; decide) (j9 := 4) (by decide) dX6_init_51 ?_
  refine e_iinc C (nI 5) [(1, .int (nI 5)), (0, .ref b)] dX6_init_52 (j := 0) rfl (by decide) (by decide) rfl ?_
  refine e_goto C 33 dX6_init_55 (by decide) ?_
  refine e_iload_n C dX6_init_33 rfl 0 rfl ?_
  refine e_bipush C (nI 6) dX6_init_34 (by decide) ?_
  refine e_icmp_ge C 58 dX6_init_36 (by decide) (fun h => absurd h (by decide)) (fun _ => ?_)
  refine e_aload_n C dX6_init_39 rfl 1 rfl ?_
  refine e_get C (Cn := RX6) (T := TX6) (N := 4) (id := 0) (by decide) inw_X6 rfl rfl rfl 0 (by decide) rfl fl_X6_11 rfl dX6_init_40 ?_
  refine e_iload_n C dX6_init_43 rfl 0 rfl ?_
  refine e_new C (ci := 4) (fs := [.int 0, .int 0, .null, .null, .null, .null]) inw_X4 tyX4 tyX4_ok cl_X6_9 ib_X4 in_X4 rfl (fun j hj => by rcases (show j = 0 ∨ j = 1 ∨ j = 2 ∨ j = 3 ∨ j = 4 ∨ j = 5 by omega) with rfl | rfl | rfl | rfl | rfl | rfl <;> rfl) (by decide) (by decide) dX6_init_44 (fun q12 => ?_)
  refine e_dup C dX6_init_47 rfl ?_
  refine e_callI C (F2 := T4 cs) (n2 := 13) (fun b9 sz9 => i_X4 l D cs b9 sz9) co_X4_init in_X4 ml_X6_28 im_X4_init rfl ⟨rfl, rfl⟩ ⟨by decide, by decide, by decide⟩ ⟨Nat.le_of_ble_eq_true rfl, Nat.le_of_ble_eq_true rfl⟩ rfl rfl (Nat.le_of_ble_eq_true rfl) (by decide) (by decide) dX6_init_48 (fun u13 hu13 => ?_)
  subst hu13
  refine e_astq C (id := 1) (idk := 68) (by decide) rfl rfl (by decide) rfl rfl (by unfold vp_in; decide) (j9 := 5) (by decide) dX6_init_51 ?_
  refine e_iinc C (nI 6) [(1, .int (nI 6)), (0, .ref b)] dX6_init_52 (j := 0) rfl (by decide) (by decide) rfl ?_
  refine e_goto C 33 dX6_init_55 (by decide) ?_
  refine e_iload_n C dX6_init_33 rfl 0 rfl ?_
  refine e_bipush C (nI 6) dX6_init_34 (by decide) ?_
  refine e_icmp_ge C 58 dX6_init_36 (by decide) (fun _ => ?_) (fun h => absurd (by decide) h)
  refine e_fin E (n2 := 81) (F2 := T6 cs) rfl (by decide) (by decide) dX6_init_58 rfl (fun ad hAD => ?_)
  have g0 : ∀ i, T4 cs u3 i = T4 cs (fun j => ad (3 + 13 * 0 + j)) i := T4_cg (by subst hAD; exact (bl_s (bl_s (bl_s (bl_s (bl_s (bl_s (bl_s (bl_s (bl_s (bl_s (bl_s (bl_s (bl_s bl_0 rfl) rfl) rfl) rfl) rfl) rfl) rfl) rfl) rfl) rfl) rfl) rfl) rfl))
  have g1 : ∀ i, T4 cs u5 i = T4 cs (fun j => ad (3 + 13 * 1 + j)) i := T4_cg (by subst hAD; exact (bl_s (bl_s (bl_s (bl_s (bl_s (bl_s (bl_s (bl_s (bl_s (bl_s (bl_s (bl_s (bl_s bl_0 rfl) rfl) rfl) rfl) rfl) rfl) rfl) rfl) rfl) rfl) rfl) rfl) rfl))
  have g2 : ∀ i, T4 cs u7 i = T4 cs (fun j => ad (3 + 13 * 2 + j)) i := T4_cg (by subst hAD; exact (bl_s (bl_s (bl_s (bl_s (bl_s (bl_s (bl_s (bl_s (bl_s (bl_s (bl_s (bl_s (bl_s bl_0 rfl) rfl) rfl) rfl) rfl) rfl) rfl) rfl) rfl) rfl) rfl) rfl) rfl))
  have g3 : ∀ i, T4 cs u9 i = T4 cs (fun j => ad (3 + 13 * 3 + j)) i := T4_cg (by subst hAD; exact (bl_s (bl_s (bl_s (bl_s (bl_s (bl_s (bl_s (bl_s (bl_s (bl_s (bl_s (bl_s (bl_s bl_0 rfl) rfl) rfl) rfl) rfl) rfl) rfl) rfl) rfl) rfl) rfl) rfl) rfl))
  have g4 : ∀ i, T4 cs u11 i = T4 cs (fun j => ad (3 + 13 * 4 + j)) i := T4_cg (by subst hAD; exact (bl_s (bl_s (bl_s (bl_s (bl_s (bl_s (bl_s (bl_s (bl_s (bl_s (bl_s (bl_s (bl_s bl_0 rfl) rfl) rfl) rfl) rfl) rfl) rfl) rfl) rfl) rfl) rfl) rfl) rfl))
  have g5 : ∀ i, T4 cs u13 i = T4 cs (fun j => ad (3 + 13 * 5 + j)) i := T4_cg (by subst hAD; exact (bl_s (bl_s (bl_s (bl_s (bl_s (bl_s (bl_s (bl_s (bl_s (bl_s (bl_s (bl_s (bl_s bl_0 rfl) rfl) rfl) rfl) rfl) rfl) rfl) rfl) rfl) rfl) rfl) rfl) rfl))
  exact (bl_s (bl_s (bl_s (bl_s (bl_s (bl_s (bl_s (bl_s (bl_s (bl_s (bl_s (bl_s (bl_s (bl_s (bl_s (bl_s (bl_s (bl_s (bl_s (bl_s (bl_s (bl_s (bl_s (bl_s (bl_s (bl_s (bl_s (bl_s (bl_s (bl_s (bl_s (bl_s (bl_s (bl_s (bl_s (bl_s (bl_s (bl_s (bl_s (bl_s (bl_s (bl_s (bl_s (bl_s (bl_s (bl_s (bl_s (bl_s (bl_s (bl_s (bl_s (bl_s (bl_s (bl_s (bl_s (bl_s (bl_s (bl_s (bl_s (bl_s (bl_s (bl_s (bl_s (bl_s (bl_s (bl_s (bl_s (bl_s (bl_s (bl_s (bl_s (bl_s (bl_s (bl_s (bl_s (bl_s (bl_s (bl_s (bl_s (bl_s (bl_s bl_0 (by rw [hAD]; rfl)) (show vq_row (cs 5) 6 (va_up (va_up (va_up (va_up (va_up (va_up (fun _ => none) 0 (some (u3 0))) 1 (some (u5 0))) 2 (some (u7 0))) 3 (some (u9 0))) 4 (some (u11 0))) 5 (some (u13 0))) = vq_row (cs 5) 6 (fun j => if j < 6 then some (ad (3 + 13 * j)) else none) from congrArg (vq_row (cs 5) 6) (row_up6 (g := fun j => ad (3 + 13 * j)) (by rw [hAD]; rfl) (by rw [hAD]; rfl) (by rw [hAD]; rfl) (by rw [hAD]; rfl) (by rw [hAD]; rfl) (by rw [hAD]; rfl)))) (by rw [hAD]; rfl)) (g0 0)) (g0 1)) (g0 2)) (g0 3)) (g0 4)) (g0 5)) (g0 6)) (g0 7)) (g0 8)) (g0 9)) (g0 10)) (g0 11)) (g0 12)) (g1 0)) (g1 1)) (g1 2)) (g1 3)) (g1 4)) (g1 5)) (g1 6)) (g1 7)) (g1 8)) (g1 9)) (g1 10)) (g1 11)) (g1 12)) (g2 0)) (g2 1)) (g2 2)) (g2 3)) (g2 4)) (g2 5)) (g2 6)) (g2 7)) (g2 8)) (g2 9)) (g2 10)) (g2 11)) (g2 12)) (g3 0)) (g3 1)) (g3 2)) (g3 3)) (g3 4)) (g3 5)) (g3 6)) (g3 7)) (g3 8)) (g3 9)) (g3 10)) (g3 11)) (g3 12)) (g4 0)) (g4 1)) (g4 2)) (g4 3)) (g4 4)) (g4 5)) (g4 6)) (g4 7)) (g4 8)) (g4 9)) (g4 10)) (g4 11)) (g4 12)) (g5 0)) (g5 1)) (g5 2)) (g5 3)) (g5 4)) (g5 5)) (g5 6)) (g5 7)) (g5 8)) (g5 9)) (g5 10)) (g5 11)) (g5 12))
