set_option maxRecDepth 100000 in
set_option maxHeartbeats 4000000 in
theorem i_X7 (l : Launch) (D : va_G) (cs : Nat → ClassId) (b sz : Nat) : Met l yX7_init (.code yX7_init cX7_init 2 none :: TT) { frames := 3, cells := 134, slots := 968, locals := 64 } (va_Pc [.ref b] (KP D cs (fun _ => b) (fun _ => .inr (7, [.null, .null, .null, .null, .null, .null, .null, .null, .null, .int 0])) 1 sz)) (va_Qv (fun u : Nat → Nat => u 0 = b) (KQ D (oA (fun _ => b) 1 sz) (T7 cs) 135) (oA (fun _ => b) 1 sz)) 134 968 (oA (fun _ => b) 1 sz) := by
  refine st_E (by decide) (Nat.le_of_ble_eq_true rfl) (fun κ C hI E => ?_)
  refine e_lv (lv2 := [(0, .ref b)]) [0] rfl ?_
  refine e_aload_n C dX7_init_0 rfl 0 rfl ?_
  refine e_oinit C ml_X7_3 dX7_init_1 (Nat.le_of_ble_eq_true rfl) (Nat.le_of_ble_eq_true rfl) ?_
  refine e_aload_n C dX7_init_4 rfl 0 rfl ?_
  refine e_new C (ci := 4) (fs := [.int 0, .int 0, .null, .null, .null, .null]) inw_X4 tyX4 tyX4_ok cl_X7_9 ib_X4 in_X4 rfl (fun j hj => by rcases (show j = 0 ∨ j = 1 ∨ j = 2 ∨ j = 3 ∨ j = 4 ∨ j = 5 by omega) with rfl | rfl | rfl | rfl | rfl | rfl <;> rfl) (by decide) (by decide) dX7_init_5 (fun q0 => ?_)
  refine e_dup C dX7_init_8 rfl ?_
  refine e_callI C (F2 := T4 cs) (n2 := 13) (fun b9 sz9 => i_X4 l D cs b9 sz9) co_X4_init in_X4 ml_X7_11 im_X4_init rfl ⟨rfl, rfl⟩ ⟨by decide, by decide, by decide⟩ ⟨Nat.le_of_ble_eq_true rfl, Nat.le_of_ble_eq_true rfl⟩ rfl rfl (Nat.le_of_ble_eq_true rfl) (by decide) (by decide) dX7_init_9 (fun u1 hu1 => ?_)
  subst hu1
  refine e_putF C hI (Cn := RX7) (T := TX7) (N := 10) (id := 0) (by decide) inw_X7 tyX7_ok nmX7 rfl rfl rfl 0 (by decide) rfl fl_X7_12 rfl rfl (by first | rfl | decide) (by first | rfl | decide) (Nat.le_of_ble_eq_true rfl) dX7_init_12 ?_
  refine e_aload_n C dX7_init_15 rfl 0 rfl ?_
  refine e_iconst C (nI 2) dX7_init_16 (by decide) ?_
  refine e_newq C cl_X7_9 (N := 2) (by decide) (by decide) (by decide) (by decide) (by decide) dX7_init_17 (fun q2 => ?_)
  refine e_putF C hI (Cn := RX7) (T := TX7) (N := 10) (id := 0) (by decide) inw_X7 tyX7_ok nmX7 rfl rfl rfl 1 (by decide) rfl fl_X7_16 rfl rfl (by first | rfl | decide) (by first | rfl | decide) (Nat.le_of_ble_eq_true rfl) dX7_init_20 ?_
  refine e_aload_n C dX7_init_23 rfl 0 rfl ?_
  refine e_iconst C (nI 2) dX7_init_24 (by decide) ?_
  refine e_newa C (ty := .boolean) ac_boolean rfl 2 rfl (fun _ h => h) (N := 2) (a0 := (2, .inl (fun _ => 0))) (fun _ => rfl) (by decide) (by decide) (by decide) (by decide) (by decide) dX7_init_25 (fun q3 => ?_)
  refine e_putF C hI (Cn := RX7) (T := TX7) (N := 10) (id := 0) (by decide) inw_X7 tyX7_ok nmX7 rfl rfl rfl 2 (by decide) rfl fl_X7_20 rfl rfl (by first | rfl | decide) (by first | rfl | decide) (Nat.le_of_ble_eq_true rfl) dX7_init_27 ?_
  refine e_aload_n C dX7_init_30 rfl 0 rfl ?_
  refine e_new C (ci := 6) (fs := [.null, .null, .int 0, .int 0]) inw_X6 tyX6 tyX6_ok cl_X7_24 ib_X6 in_X6 rfl (fun j hj => by rcases (show j = 0 ∨ j = 1 ∨ j = 2 ∨ j = 3 by omega) with rfl | rfl | rfl | rfl <;> rfl) (by decide) (by decide) dX7_init_31 (fun q4 => ?_)
  refine e_dup C dX7_init_34 rfl ?_
  refine e_callI C (F2 := T6 cs) (n2 := 81) (fun b9 sz9 => i_X6 l D cs b9 sz9) co_X6_init in_X6 ml_X7_26 im_X6_init rfl ⟨rfl, rfl⟩ ⟨by decide, by decide, by decide⟩ ⟨Nat.le_of_ble_eq_true rfl, Nat.le_of_ble_eq_true rfl⟩ rfl rfl (Nat.le_of_ble_eq_true rfl) (by decide) (by decide) dX7_init_35 (fun u5 hu5 => ?_)
  subst hu5
  refine e_putF C hI (Cn := RX7) (T := TX7) (N := 10) (id := 0) (by decide) inw_X7 tyX7_ok nmX7 rfl rfl rfl 3 (by decide) rfl fl_X7_27 rfl rfl (by first | rfl | decide) (by first | rfl | decide) (Nat.le_of_ble_eq_true rfl) dX7_init_38 ?_
  refine e_aload_n C dX7_init_41 rfl 0 rfl ?_
  refine e_new C (ci := 3) (fs := [.null, .int 0]) inw_X3 tyX3 tyX3_ok cl_X7_31 ib_X3 in_X3 rfl (fun j hj => by rcases (show j = 0 ∨ j = 1 by omega) with rfl | rfl <;> rfl) (by decide) (by decide) dX7_init_42 (fun q6 => ?_)
  refine e_dup C dX7_init_45 rfl ?_
  refine e_callIN C (F2 := T3 cs) (n2 := 2) (fun b9 sz9 => i_X3 l D cs b9 sz9) co_X3_init in_X3 (List.mem_of_getElem? (i := 0) rfl) im_X3_init rfl ⟨rfl, rfl⟩ ⟨by decide, by decide, by decide⟩ ⟨Nat.le_of_ble_eq_true rfl, Nat.le_of_ble_eq_true rfl⟩ rfl rfl (Nat.le_of_ble_eq_true rfl) (by decide) (by decide) dX7_init_46 (fun u7 hu7 => ?_)
  subst hu7
  refine e_putF C hI (Cn := RX7) (T := TX7) (N := 10) (id := 0) (by decide) inw_X7 tyX7_ok nmX7 rfl rfl rfl 4 (by decide) rfl fl_X7_34 rfl rfl (by first | rfl | decide) (by first | rfl | decide) (Nat.le_of_ble_eq_true rfl) dX7_init_49 ?_
  refine e_aload_n C dX7_init_52 rfl 0 rfl ?_
  refine e_new C (ci := 2) (fs := [.null, .int 0]) inw_X2 tyX2 tyX2_ok cl_X7_38 ib_X2 in_X2 rfl (fun j hj => by rcases (show j = 0 ∨ j = 1 by omega) with rfl | rfl <;> rfl) (by decide) (by decide) dX7_init_53 (fun q8 => ?_)
  refine e_dup C dX7_init_56 rfl ?_
  refine e_callIN C (F2 := T2 cs) (n2 := 2) (fun b9 sz9 => i_X2 l D cs b9 sz9) co_X2_init in_X2 (List.mem_of_getElem? (i := 1) rfl) im_X2_init rfl ⟨rfl, rfl⟩ ⟨by decide, by decide, by decide⟩ ⟨Nat.le_of_ble_eq_true rfl, Nat.le_of_ble_eq_true rfl⟩ rfl rfl (Nat.le_of_ble_eq_true rfl) (by decide) (by decide) dX7_init_57 (fun u9 hu9 => ?_)
  subst hu9
  refine e_putF C hI (Cn := RX7) (T := TX7) (N := 10) (id := 0) (by decide) inw_X7 tyX7_ok nmX7 rfl rfl rfl 5 (by decide) rfl fl_X7_41 rfl rfl (by first | rfl | decide) (by first | rfl | decide) (Nat.le_of_ble_eq_true rfl) dX7_init_60 ?_
  refine e_aload_n C dX7_init_63 rfl 0 rfl ?_
  refine e_new C (ci := 1) (fs := [.null, .int 0]) inw_X1 tyX1 tyX1_ok cl_X7_45 ib_X1 in_X1 rfl (fun j hj => by rcases (show j = 0 ∨ j = 1 by omega) with rfl | rfl <;> rfl) (by decide) (by decide) dX7_init_64 (fun q10 => ?_)
  refine e_dup C dX7_init_67 rfl ?_
  refine e_callIN C (F2 := T1 cs) (n2 := 2) (fun b9 sz9 => i_X1 l D cs b9 sz9) co_X1_init in_X1 (List.mem_of_getElem? (i := 2) rfl) im_X1_init rfl ⟨rfl, rfl⟩ ⟨by decide, by decide, by decide⟩ ⟨Nat.le_of_ble_eq_true rfl, Nat.le_of_ble_eq_true rfl⟩ rfl rfl (Nat.le_of_ble_eq_true rfl) (by decide) (by decide) dX7_init_68 (fun u11 hu11 => ?_)
  subst hu11
  refine e_putF C hI (Cn := RX7) (T := TX7) (N := 10) (id := 0) (by decide) inw_X7 tyX7_ok nmX7 rfl rfl rfl 6 (by decide) rfl fl_X7_48 rfl rfl (by first | rfl | decide) (by first | rfl | decide) (Nat.le_of_ble_eq_true rfl) dX7_init_71 ?_
  refine e_aload_n C dX7_init_74 rfl 0 rfl ?_
  refine e_new C (ci := 0) (fs := [.int 0, .long 0, .long 0, .int 0]) inw_X0 tyX0 tyX0_ok cl_X7_52 ib_X0 in_X0 rfl (fun j hj => by rcases (show j = 0 ∨ j = 1 ∨ j = 2 ∨ j = 3 by omega) with rfl | rfl | rfl | rfl <;> rfl) (by decide) (by decide) dX7_init_75 (fun q12 => ?_)
  refine e_dup C dX7_init_78 rfl ?_
  refine e_callIN C (F2 := T0 cs) (n2 := 1) (fun b9 sz9 => i_X0 l D cs b9 sz9) co_X0_init in_X0 (List.mem_of_getElem? (i := 3) rfl) im_X0_init rfl ⟨rfl, rfl⟩ ⟨by decide, by decide, by decide⟩ ⟨Nat.le_of_ble_eq_true rfl, Nat.le_of_ble_eq_true rfl⟩ rfl rfl (Nat.le_of_ble_eq_true rfl) (by decide) (by decide) dX7_init_79 (fun u13 hu13 => ?_)
  subst hu13
  refine e_putF C hI (Cn := RX7) (T := TX7) (N := 10) (id := 0) (by decide) inw_X7 tyX7_ok nmX7 rfl rfl rfl 7 (by decide) rfl fl_X7_55 rfl rfl (by first | rfl | decide) (by first | rfl | decide) (Nat.le_of_ble_eq_true rfl) dX7_init_82 ?_
  refine e_aload_n C dX7_init_85 rfl 0 rfl ?_
  refine e_new C (ci := 5) (fs := [.null, .null, .null, .null]) inw_X5 tyX5 tyX5_ok cl_X7_59 ib_X5 in_X5 rfl (fun j hj => by rcases (show j = 0 ∨ j = 1 ∨ j = 2 ∨ j = 3 by omega) with rfl | rfl | rfl | rfl <;> rfl) (by decide) (by decide) dX7_init_86 (fun q14 => ?_)
  refine e_dup C dX7_init_89 rfl ?_
  refine e_callIN C (F2 := T5 cs) (n2 := 5) (fun b9 sz9 => i_X5 l D cs b9 sz9) co_X5_init in_X5 (List.mem_of_getElem? (i := 4) rfl) im_X5_init rfl ⟨rfl, rfl⟩ ⟨by decide, by decide, by decide⟩ ⟨Nat.le_of_ble_eq_true rfl, Nat.le_of_ble_eq_true rfl⟩ rfl rfl (Nat.le_of_ble_eq_true rfl) (by decide) (by decide) dX7_init_90 (fun u15 hu15 => ?_)
  subst hu15
  refine e_putF C hI (Cn := RX7) (T := TX7) (N := 10) (id := 0) (by decide) inw_X7 tyX7_ok nmX7 rfl rfl rfl 8 (by decide) rfl fl_X7_62 rfl rfl (by first | rfl | decide) (by first | rfl | decide) (Nat.le_of_ble_eq_true rfl) dX7_init_93 ?_
  refine e_aload_n C dX7_init_96 rfl 0 rfl ?_
  refine e_iconst C (nI 0) dX7_init_97 (by decide) ?_
  refine e_put C (Cn := RX7) (T := TX7) (N := 10) (id := 0) (by decide) inw_X7 tyX7_ok nmX7 rfl rfl rfl 9 (by decide) rfl fl_X7_66 rfl (by first | rfl | decide) (by first | rfl | decide) (Nat.le_of_ble_eq_true rfl) dX7_init_98 ?_
  refine e_iconst C (nI 0) dX7_init_101 (by decide) ?_
  refine e_istore_n C [(1, .int (nI 0)), (0, .ref b)] dX7_init_102 rfl (by decide) rfl ?_
  refine e_iload_n C dX7_init_103 rfl 0 rfl ?_
  refine e_iconst C (nI 2) dX7_init_104 (by decide) ?_
  refine e_icmp_ge C 127 dX7_init_105 (by decide) (fun h => absurd h (by decide)) (fun _ => ?_)
  refine e_aload_n C dX7_init_108 rfl 1 rfl ?_
  refine e_get C (Cn := RX7) (T := TX7) (N := 10) (id := 0) (by decide) inw_X7 rfl rfl rfl 1 (by decide) rfl fl_X7_16 rfl dX7_init_109 ?_
  refine e_iload_n C dX7_init_112 rfl 0 rfl ?_
  refine e_new C (ci := 4) (fs := [.int 0, .int 0, .null, .null, .null, .null]) inw_X4 tyX4 tyX4_ok cl_X7_9 ib_X4 in_X4 rfl (fun j hj => by rcases (show j = 0 ∨ j = 1 ∨ j = 2 ∨ j = 3 ∨ j = 4 ∨ j = 5 by omega) with rfl | rfl | rfl | rfl | rfl | rfl <;> rfl) (by decide) (by decide) dX7_init_113 (fun q16 => ?_)
  refine e_dup C dX7_init_116 rfl ?_
  refine e_callI C (F2 := T4 cs) (n2 := 13) (fun b9 sz9 => i_X4 l D cs b9 sz9) co_X4_init in_X4 ml_X7_11 im_X4_init rfl ⟨rfl, rfl⟩ ⟨by decide, by decide, by decide⟩ ⟨Nat.le_of_ble_eq_true rfl, Nat.le_of_ble_eq_true rfl⟩ rfl rfl (Nat.le_of_ble_eq_true rfl) (by decide) (by decide) dX7_init_117 (fun u17 hu17 => ?_)
  subst hu17
  refine e_astq C (id := 14) (idk := 109) (by decide) rfl rfl (by decide) rfl rfl (by unfold vp_in; decide) (j9 := 0) (by decide) dX7_init_120 ?_
  refine e_iinc C (nI 1) [(1, .int (nI 1)), (0, .ref b)] dX7_init_121 (j := 0) rfl (by decide) (by decide) rfl ?_
  refine e_goto C 103 dX7_init_124 (by decide) ?_
  refine e_iload_n C dX7_init_103 rfl 0 rfl ?_
  refine e_iconst C (nI 2) dX7_init_104 (by decide) ?_
  refine e_icmp_ge C 127 dX7_init_105 (by decide) (fun h => absurd h (by decide)) (fun _ => ?_)
  refine e_aload_n C dX7_init_108 rfl 1 rfl ?_
  refine e_get C (Cn := RX7) (T := TX7) (N := 10) (id := 0) (by decide) inw_X7 rfl rfl rfl 1 (by decide) rfl fl_X7_16 rfl dX7_init_109 ?_
  refine e_iload_n C dX7_init_112 rfl 0 rfl ?_
  refine e_new C (ci := 4) (fs := [.int 0, .int 0, .null, .null, .null, .null]) inw_X4 tyX4 tyX4_ok cl_X7_9 ib_X4 in_X4 rfl (fun j hj => by rcases (show j = 0 ∨ j = 1 ∨ j = 2 ∨ j = 3 ∨ j = 4 ∨ j = 5 by omega) with rfl | rfl | rfl | rfl | rfl | rfl <;> rfl) (by decide) (by decide) dX7_init_113 (fun q18 => ?_)
  refine e_dup C dX7_init_116 rfl ?_
  refine e_callI C (F2 := T4 cs) (n2 := 13) (fun b9 sz9 => i_X4 l D cs b9 sz9) co_X4_init in_X4 ml_X7_11 im_X4_init rfl ⟨rfl, rfl⟩ ⟨by decide, by decide, by decide⟩ ⟨Nat.le_of_ble_eq_true rfl, Nat.le_of_ble_eq_true rfl⟩ rfl rfl (Nat.le_of_ble_eq_true rfl) (by decide) (by decide) dX7_init_117 (fun u19 hu19 => ?_)
  subst hu19
  refine e_astq C (id := 14) (idk := 122) (by decide) rfl rfl (by decide) rfl rfl (by unfold vp_in; decide) (j9 := 1) (by decide) dX7_init_120 ?_
  refine e_iinc C (nI 2) [(1, .int (nI 2)), (0, .ref b)] dX7_init_121 (j := 0) rfl (by decide) (by decide) rfl ?_
  refine e_goto C 103 dX7_init_124 (by decide) ?_
  refine e_iload_n C dX7_init_103 rfl 0 rfl ?_
  refine e_iconst C (nI 2) dX7_init_104 (by decide) ?_
  refine e_icmp_ge C 127 dX7_init_105 (by decide) (fun _ => ?_) (fun h => absurd (by decide) h)
  refine e_fin E (n2 := 135) (F2 := T7 cs) rfl (by decide) (by decide) dX7_init_127 rfl (fun ad hAD => ?_)
  have gn : ∀ i, T4 cs u1 i = T4 cs (fun j => ad (1 + j)) i := T4_cg (by subst hAD; exact (bl_s (bl_s (bl_s (bl_s (bl_s (bl_s (bl_s (bl_s (bl_s (bl_s (bl_s (bl_s (bl_s bl_0 rfl) rfl) rfl) rfl) rfl) rfl) rfl) rfl) rfl) rfl) rfl) rfl) rfl))
  have ga : ∀ i, T4 cs u17 i = T4 cs (fun j => ad (109 + 13 * 0 + j)) i := T4_cg (by subst hAD; exact (bl_s (bl_s (bl_s (bl_s (bl_s (bl_s (bl_s (bl_s (bl_s (bl_s (bl_s (bl_s (bl_s bl_0 rfl) rfl) rfl) rfl) rfl) rfl) rfl) rfl) rfl) rfl) rfl) rfl) rfl))
  have gc : ∀ i, T4 cs u19 i = T4 cs (fun j => ad (109 + 13 * 1 + j)) i := T4_cg (by subst hAD; exact (bl_s (bl_s (bl_s (bl_s (bl_s (bl_s (bl_s (bl_s (bl_s (bl_s (bl_s (bl_s (bl_s bl_0 rfl) rfl) rfl) rfl) rfl) rfl) rfl) rfl) rfl) rfl) rfl) rfl) rfl))
  have gh : ∀ i, i < 81 → T6 cs u5 i = T6 cs (fun j => ad (16 + j)) i := T6_cg (by subst hAD; exact (bl_s (bl_s (bl_s (bl_s (bl_s (bl_s (bl_s (bl_s (bl_s (bl_s (bl_s (bl_s (bl_s (bl_s (bl_s (bl_s (bl_s (bl_s (bl_s (bl_s (bl_s (bl_s (bl_s (bl_s (bl_s (bl_s (bl_s (bl_s (bl_s (bl_s (bl_s (bl_s (bl_s (bl_s (bl_s (bl_s (bl_s (bl_s (bl_s (bl_s (bl_s (bl_s (bl_s (bl_s (bl_s (bl_s (bl_s (bl_s (bl_s (bl_s (bl_s (bl_s (bl_s (bl_s (bl_s (bl_s (bl_s (bl_s (bl_s (bl_s (bl_s (bl_s (bl_s (bl_s (bl_s (bl_s (bl_s (bl_s (bl_s (bl_s (bl_s (bl_s (bl_s (bl_s (bl_s (bl_s (bl_s (bl_s (bl_s (bl_s (bl_s bl_0 rfl) rfl) rfl) rfl) rfl) rfl) rfl) rfl) rfl) rfl) rfl) rfl) rfl) rfl) rfl) rfl) rfl) rfl) rfl) rfl) rfl) rfl) rfl) rfl) rfl) rfl) rfl) rfl) rfl) rfl) rfl) rfl) rfl) rfl) rfl) rfl) rfl) rfl) rfl) rfl) rfl) rfl) rfl) rfl) rfl) rfl) rfl) rfl) rfl) rfl) rfl) rfl) rfl) rfl) rfl) rfl) rfl) rfl) rfl) rfl) rfl) rfl) rfl) rfl) rfl) rfl) rfl) rfl) rfl) rfl) rfl) rfl) rfl) rfl) rfl) rfl) rfl) rfl) rfl) rfl) rfl))
  exact (bl_s (bl_s (bl_s (bl_s (bl_s (bl_s (bl_s (bl_s (bl_s (bl_s (bl_s (bl_s (bl_s (bl_s (bl_s (bl_s (bl_s (bl_s (bl_s (bl_s (bl_s (bl_s (bl_s (bl_s (bl_s (bl_s (bl_s (bl_s (bl_s (bl_s (bl_s (bl_s (bl_s (bl_s (bl_s (bl_s (bl_s (bl_s (bl_s (bl_s (bl_s (bl_s (bl_s (bl_s (bl_s (bl_s (bl_s (bl_s (bl_s (bl_s (bl_s (bl_s (bl_s (bl_s (bl_s (bl_s (bl_s (bl_s (bl_s (bl_s (bl_s (bl_s (bl_s (bl_s (bl_s (bl_s (bl_s (bl_s (bl_s (bl_s (bl_s (bl_s (bl_s (bl_s (bl_s (bl_s (bl_s (bl_s (bl_s (bl_s (bl_s (bl_s (bl_s (bl_s (bl_s (bl_s (bl_s (bl_s (bl_s (bl_s (bl_s (bl_s (bl_s (bl_s (bl_s (bl_s (bl_s (bl_s (bl_s (bl_s (bl_s (bl_s (bl_s (bl_s (bl_s (bl_s (bl_s (bl_s (bl_s (bl_s (bl_s (bl_s (bl_s (bl_s (bl_s (bl_s (bl_s (bl_s (bl_s (bl_s (bl_s (bl_s (bl_s (bl_s (bl_s (bl_s (bl_s (bl_s (bl_s (bl_s (bl_s (bl_s (bl_s (bl_s (bl_s bl_0 (by rw [hAD]; rfl)) (gn 0)) (gn 1)) (gn 2)) (gn 3)) (gn 4)) (gn 5)) (gn 6)) (gn 7)) (gn 8)) (gn 9)) (gn 10)) (gn 11)) (gn 12)) (show vq_row (cs 5) 2 (va_up (va_up (fun _ => none) 0 (some (u17 0))) 1 (some (u19 0))) = vq_row (cs 5) 2 (fun j => if j < 2 then some (ad (109 + 13 * j)) else none) from congrArg (vq_row (cs 5) 2) (row_up2 (g := fun j => ad (109 + 13 * j)) (by rw [hAD]; rfl) (by rw [hAD]; rfl)))) (by rw [hAD]; rfl)) (gh 0 (by decide))) (gh 1 (by decide))) (gh 2 (by decide))) (gh 3 (by decide))) (gh 4 (by decide))) (gh 5 (by decide))) (gh 6 (by decide))) (gh 7 (by decide))) (gh 8 (by decide))) (gh 9 (by decide))) (gh 10 (by decide))) (gh 11 (by decide))) (gh 12 (by decide))) (gh 13 (by decide))) (gh 14 (by decide))) (gh 15 (by decide))) (gh 16 (by decide))) (gh 17 (by decide))) (gh 18 (by decide))) (gh 19 (by decide))) (gh 20 (by decide))) (gh 21 (by decide))) (gh 22 (by decide))) (gh 23 (by decide))) (gh 24 (by decide))) (gh 25 (by decide))) (gh 26 (by decide))) (gh 27 (by decide))) (gh 28 (by decide))) (gh 29 (by decide))) (gh 30 (by decide))) (gh 31 (by decide))) (gh 32 (by decide))) (gh 33 (by decide))) (gh 34 (by decide))) (gh 35 (by decide))) (gh 36 (by decide))) (gh 37 (by decide))) (gh 38 (by decide))) (gh 39 (by decide))) (gh 40 (by decide))) (gh 41 (by decide))) (gh 42 (by decide))) (gh 43 (by decide))) (gh 44 (by decide))) (gh 45 (by decide))) (gh 46 (by decide))) (gh 47 (by decide))) (gh 48 (by decide))) (gh 49 (by decide))) (gh 50 (by decide))) (gh 51 (by decide))) (gh 52 (by decide))) (gh 53 (by decide))) (gh 54 (by decide))) (gh 55 (by decide))) (gh 56 (by decide))) (gh 57 (by decide))) (gh 58 (by decide))) (gh 59 (by decide))) (gh 60 (by decide))) (gh 61 (by decide))) (gh 62 (by decide))) (gh 63 (by decide))) (gh 64 (by decide))) (gh 65 (by decide))) (gh 66 (by decide))) (gh 67 (by decide))) (gh 68 (by decide))) (gh 69 (by decide))) (gh 70 (by decide))) (gh 71 (by decide))) (gh 72 (by decide))) (gh 73 (by decide))) (gh 74 (by decide))) (gh 75 (by decide))) (gh 76 (by decide))) (gh 77 (by decide))) (gh 78 (by decide))) (gh 79 (by decide))) (gh 80 (by decide))) (by rw [hAD]; rfl)) (by rw [hAD]; rfl)) (by rw [hAD]; rfl)) (by rw [hAD]; rfl)) (by rw [hAD]; rfl)) (by rw [hAD]; rfl)) (by rw [hAD]; rfl)) (by rw [hAD]; rfl)) (by rw [hAD]; rfl)) (by rw [hAD]; rfl)) (by rw [hAD]; rfl)) (by rw [hAD]; rfl)) (ga 0)) (ga 1)) (ga 2)) (ga 3)) (ga 4)) (ga 5)) (ga 6)) (ga 7)) (ga 8)) (ga 9)) (ga 10)) (ga 11)) (ga 12)) (gc 0)) (gc 1)) (gc 2)) (gc 3)) (gc 4)) (gc 5)) (gc 6)) (gc 7)) (gc 8)) (gc 9)) (gc 10)) (gc 11)) (gc 12))
