/-! ===== what each constructor leaves (by hand), its walk (written by wip/whole/gen/ctor.py) ===== -/
def T0 (_ : Nat → ClassId) (_ : Nat → Nat) (_ : Nat) : va_E := .inr (0, [.int (nI 0), .long (-1), .long (-1), .int (-1)])
def T1 (cs : Nat → ClassId) (u : Nat → Nat) (i : Nat) : va_E := if i = 0 then .inr (1, [.ref (u 1), .int (nI 1)]) else .inl (cs 0, 256, .inl (fun _ => 0))
def T2 (cs : Nat → ClassId) (u : Nat → Nat) (i : Nat) : va_E := if i = 0 then .inr (2, [.ref (u 1), .int (nI 0)]) else .inl (cs 0, 8, .inl (fun _ => 0))
def T3 (cs : Nat → ClassId) (u : Nat → Nat) (i : Nat) : va_E := if i = 0 then .inr (3, [.ref (u 1), .int (nI 0)]) else .inl (cs 1, 60, .inl (fun _ => 0))
def vq_row (c : ClassId) (n : Nat) (f : Nat → Option Nat) : va_E := .inl (c, n, .inr (.inr (.inr (.inr f))))
def T4 (cs : Nat → ClassId) (u : Nat → Nat) (i : Nat) : va_E :=
  if i = 0 then .inr (4, [.int (nI 4), .int (nI 3), .ref (u 1), .ref (u 2), .ref (u 3), .ref (u 12)])
  else if i = 3 then vq_row (cs 4) 8 (fun j => if j < 8 then some (u (4 + j)) else none)
  else if i = 1 then .inl (cs 0, 8, .inl (fun _ => 0))
  else if i = 2 then .inl (cs 0, 8, .inl (fun j => if j < 8 then nI 1 else 0))
  else .inl (cs 0, 4, .inl (fun _ => 0))
theorem T4_cg {cs : Nat → ClassId} {u v : Nat → Nat} (h : ∀ j, j < 13 → u j = v j) (i : Nat) : T4 cs u i = T4 cs v i := by
  unfold T4
  rw [h 1 (by decide), h 2 (by decide), h 3 (by decide), h 12 (by decide)]
  have e : (fun j => if j < 8 then some (u (4 + j)) else none) = fun j => if j < 8 then some (v (4 + j)) else none := funext fun j => by
    by_cases q : j < 8
    · rw [if_pos q, if_pos q, h (4 + j) (by omega)]
    · rw [if_neg q, if_neg q]
  rw [e]
def T5 (cs : Nat → ClassId) (u : Nat → Nat) (i : Nat) : va_E := if i = 0 then .inr (5, [.ref (u 1), .ref (u 2), .ref (u 3), .ref (u 4)]) else if i = 1 ∨ i = 3 then .inl (cs 0, 4, .inl (fun _ => 0)) else T0 cs u 0
def T6 (cs : Nat → ClassId) (u : Nat → Nat) (i : Nat) : va_E :=
  if i = 0 then .inr (6, [.ref (u 1), .ref (u 2), .int (nI 0), .int (nI 0)])
  else if i = 1 then vq_row (cs 5) 6 (fun j => if j < 6 then some (u (3 + 13 * j)) else none)
  else if i = 2 then .inl (cs 0, 6, .inl (fun _ => 0))
  else T4 cs (fun j => u (3 + 13 * ((i - 3) / 13) + j)) ((i - 3) % 13)
def T7 (cs : Nat → ClassId) (u : Nat → Nat) (i : Nat) : va_E :=
  if i = 0 then .inr (7, [.ref (u 1), .ref (u 14), .ref (u 15), .ref (u 16), .ref (u 97), .ref (u 99), .ref (u 101), .ref (u 103), .ref (u 104), .int (nI 0)])
  else if i < 14 then T4 cs (fun j => u (1 + j)) (i - 1)
  else if i = 14 then vq_row (cs 5) 2 (fun j => if j < 2 then some (u (109 + 13 * j)) else none)
  else if i = 15 then .inl (cs 2, 2, .inl (fun _ => 0))
  else if i < 97 then T6 cs (fun j => u (16 + j)) (i - 16)
  else if i < 99 then T3 cs (fun j => u (97 + j)) (i - 97)
  else if i < 101 then T2 cs (fun j => u (99 + j)) (i - 99)
  else if i < 103 then T1 cs (fun j => u (101 + j)) (i - 101)
  else if i = 103 then T0 cs u 0
  else if i < 109 then T5 cs (fun j => u (104 + j)) (i - 104)
  else T4 cs (fun j => u (109 + 13 * ((i - 109) / 13) + j)) ((i - 109) % 13)
section CTF
variable {l : Launch} {D : va_G} {cs : Nat → ClassId} {ad : Nat → Nat} {F : Nat → va_E} {n9 : Nat} {nL : Nat} {A : Nat → Prop} {κ : Kx} {cl sl : Nat} {pc : Nat} {lv : List (Nat × Value)} {cc : ByteArray}
theorem e_fin {u0 n2 mc ms : Nat} {F2 : (Nat → Nat) → Nat → va_E} (E : eE l D nL A cc mc ms κ (fun U => ∃ u : Nat → Nat, u 0 = u0 ∧ KQ D A F2 n2 u U)) (hn : n9 = n2) (h1 : cl ≤ mc) (h2 : sl ≤ ms) (d : decode cc pc = .ok (.return_, 1)) (hu : ad 0 = u0) (hF : ∀ ad2, ad2 = ad → ∀ i, i < n2 → F i = F2 ad2 i) : EV l D nL A κ cl sl ad F n9 pc lv [] := by
  subst hn
  refine E cl sl ad F n9 pc lv h1 h2 d (fun U hP hD => ⟨ad, hu, ?_, aW_D hD (Nat.le_refl _)⟩)
  rw [aW_cg (ad2 := ad) (G := F2 ad) (fun i hi => ⟨rfl, hF ad rfl i hi⟩)] at hP
  exact hP
end CTF
set_option maxRecDepth 100000 in
set_option maxHeartbeats 4000000 in
theorem i_X0 (l : Launch) (D : va_G) (cs : Nat → ClassId) (b sz : Nat) : Met l yX0_init (.code yX0_init cX0_init 1 none :: TT) { frames := 1, cells := 0, slots := 0, locals := 12 } (va_Pc [.ref b] (KP D cs (fun _ => b) (fun _ => .inr (0, [.int 0, .long 0, .long 0, .int 0])) 1 sz)) (va_Qv (fun u : Nat → Nat => u 0 = b) (KQ D (oA (fun _ => b) 1 sz) (T0 cs) 1) (oA (fun _ => b) 1 sz)) 0 0 (oA (fun _ => b) 1 sz) := by
  refine st_E (by decide) (Nat.le_of_ble_eq_true rfl) (fun κ C hI E => ?_)
  refine e_lv (lv2 := [(0, .ref b)]) [0] rfl ?_
  refine e_aload_n C dX0_init_0 rfl 0 rfl ?_
  refine e_oinit C ml_X0_3 dX0_init_1 (Nat.le_of_ble_eq_true rfl) (Nat.le_of_ble_eq_true rfl) ?_
  refine e_aload_n C dX0_init_4 rfl 0 rfl ?_
  refine e_iconst C (nI 0) dX0_init_5 (by decide) ?_
  refine e_put C (Cn := RX0) (T := TX0) (N := 4) (id := 0) (by decide) inw_X0 tyX0_ok nmX0 rfl rfl rfl 0 (by decide) rfl fl_X0_9 rfl (by first | rfl | decide) (by first | rfl | decide) (Nat.le_of_ble_eq_true rfl) dX0_init_6 ?_
  refine e_aload_n C dX0_init_9 rfl 0 rfl ?_
  refine e_ldc2 C (-1) k_X0_15 dX0_init_10 ?_
  refine e_put C (Cn := RX0) (T := TX0) (N := 4) (id := 0) (by decide) inw_X0 tyX0_ok nmX0 rfl rfl rfl 1 (by decide) rfl fl_X0_17 rfl (by first | rfl | decide) (by first | rfl | decide) (Nat.le_of_ble_eq_true rfl) dX0_init_13 ?_
  refine e_aload_n C dX0_init_16 rfl 0 rfl ?_
  refine e_ldc2 C (-1) k_X0_15 dX0_init_17 ?_
  refine e_put C (Cn := RX0) (T := TX0) (N := 4) (id := 0) (by decide) inw_X0 tyX0_ok nmX0 rfl rfl rfl 2 (by decide) rfl fl_X0_21 rfl (by first | rfl | decide) (by first | rfl | decide) (Nat.le_of_ble_eq_true rfl) dX0_init_20 ?_
  refine e_aload_n C dX0_init_23 rfl 0 rfl ?_
  refine e_iconst C (-1) dX0_init_24 (by decide) ?_
  refine e_put C (Cn := RX0) (T := TX0) (N := 4) (id := 0) (by decide) inw_X0 tyX0_ok nmX0 rfl rfl rfl 3 (by decide) rfl fl_X0_24 rfl (by first | rfl | decide) (by first | rfl | decide) (Nat.le_of_ble_eq_true rfl) dX0_init_25 ?_
  refine e_fin E (n2 := 1) (F2 := T0 cs) rfl (by decide) (by decide) dX0_init_28 rfl (fun ad hAD => ?_)
  exact (bl_s bl_0 (by rw [hAD]; rfl))
set_option maxRecDepth 100000 in
set_option maxHeartbeats 4000000 in
theorem i_X1 (l : Launch) (D : va_G) (cs : Nat → ClassId) (b sz : Nat) : Met l yX1_init (.code yX1_init cX1_init 1 none :: TT) { frames := 1, cells := 1, slots := 256, locals := 12 } (va_Pc [.ref b] (KP D cs (fun _ => b) (fun _ => .inr (1, [.null, .int 0])) 1 sz)) (va_Qv (fun u : Nat → Nat => u 0 = b) (KQ D (oA (fun _ => b) 1 sz) (T1 cs) 2) (oA (fun _ => b) 1 sz)) 1 256 (oA (fun _ => b) 1 sz) := by
  refine st_E (by decide) (Nat.le_of_ble_eq_true rfl) (fun κ C hI E => ?_)
  refine e_lv (lv2 := [(0, .ref b)]) [0] rfl ?_
  refine e_aload_n C dX1_init_0 rfl 0 rfl ?_
  refine e_oinit C ml_X1_3 dX1_init_1 (Nat.le_of_ble_eq_true rfl) (Nat.le_of_ble_eq_true rfl) ?_
  refine e_aload_n C dX1_init_4 rfl 0 rfl ?_
  refine e_sipush C (nI 256) dX1_init_5 (by decide) ?_
  refine e_newa C (ty := .int) ac_int rfl 0 rfl (fun _ h => h) (N := 256) (a0 := (256, .inl (fun _ => 0))) (fun _ => rfl) (by decide) (by decide) (by decide) (by decide) (by decide) dX1_init_8 (fun q0 => ?_)
  refine e_putF C hI (Cn := RX1) (T := TX1) (N := 2) (id := 0) (by decide) inw_X1 tyX1_ok nmX1 rfl rfl rfl 0 (by decide) rfl fl_X1_9 rfl rfl (by first | rfl | decide) (by first | rfl | decide) (Nat.le_of_ble_eq_true rfl) dX1_init_10 ?_
  refine e_aload_n C dX1_init_13 rfl 0 rfl ?_
  refine e_iconst C (nI 1) dX1_init_14 (by decide) ?_
  refine e_put C (Cn := RX1) (T := TX1) (N := 2) (id := 0) (by decide) inw_X1 tyX1_ok nmX1 rfl rfl rfl 1 (by decide) rfl fl_X1_15 rfl (by first | rfl | decide) (by first | rfl | decide) (Nat.le_of_ble_eq_true rfl) dX1_init_15 ?_
  refine e_fin E (n2 := 2) (F2 := T1 cs) rfl (by decide) (by decide) dX1_init_18 rfl (fun ad hAD => ?_)
  exact (bl_s (bl_s bl_0 (by rw [hAD]; rfl)) (by rw [hAD]; rfl))
set_option maxRecDepth 100000 in
set_option maxHeartbeats 4000000 in
theorem i_X2 (l : Launch) (D : va_G) (cs : Nat → ClassId) (b sz : Nat) : Met l yX2_init (.code yX2_init cX2_init 1 none :: TT) { frames := 1, cells := 1, slots := 8, locals := 12 } (va_Pc [.ref b] (KP D cs (fun _ => b) (fun _ => .inr (2, [.null, .int 0])) 1 sz)) (va_Qv (fun u : Nat → Nat => u 0 = b) (KQ D (oA (fun _ => b) 1 sz) (T2 cs) 2) (oA (fun _ => b) 1 sz)) 1 8 (oA (fun _ => b) 1 sz) := by
  refine st_E (by decide) (Nat.le_of_ble_eq_true rfl) (fun κ C hI E => ?_)
  refine e_lv (lv2 := [(0, .ref b)]) [0] rfl ?_
  refine e_aload_n C dX2_init_0 rfl 0 rfl ?_
  refine e_oinit C ml_X2_3 dX2_init_1 (Nat.le_of_ble_eq_true rfl) (Nat.le_of_ble_eq_true rfl) ?_
  refine e_aload_n C dX2_init_4 rfl 0 rfl ?_
  refine e_bipush C (nI 8) dX2_init_5 (by decide) ?_
  refine e_newa C (ty := .int) ac_int rfl 0 rfl (fun _ h => h) (N := 8) (a0 := (8, .inl (fun _ => 0))) (fun _ => rfl) (by decide) (by decide) (by decide) (by decide) (by decide) dX2_init_7 (fun q0 => ?_)
  refine e_putF C hI (Cn := RX2) (T := TX2) (N := 2) (id := 0) (by decide) inw_X2 tyX2_ok nmX2 rfl rfl rfl 0 (by decide) rfl fl_X2_9 rfl rfl (by first | rfl | decide) (by first | rfl | decide) (Nat.le_of_ble_eq_true rfl) dX2_init_9 ?_
  refine e_aload_n C dX2_init_12 rfl 0 rfl ?_
  refine e_iconst C (nI 0) dX2_init_13 (by decide) ?_
  refine e_put C (Cn := RX2) (T := TX2) (N := 2) (id := 0) (by decide) inw_X2 tyX2_ok nmX2 rfl rfl rfl 1 (by decide) rfl fl_X2_15 rfl (by first | rfl | decide) (by first | rfl | decide) (Nat.le_of_ble_eq_true rfl) dX2_init_14 ?_
  refine e_fin E (n2 := 2) (F2 := T2 cs) rfl (by decide) (by decide) dX2_init_17 rfl (fun ad hAD => ?_)
  exact (bl_s (bl_s bl_0 (by rw [hAD]; rfl)) (by rw [hAD]; rfl))
set_option maxRecDepth 100000 in
set_option maxHeartbeats 4000000 in
theorem i_X3 (l : Launch) (D : va_G) (cs : Nat → ClassId) (b sz : Nat) : Met l yX3_init (.code yX3_init cX3_init 1 none :: TT) { frames := 1, cells := 1, slots := 60, locals := 12 } (va_Pc [.ref b] (KP D cs (fun _ => b) (fun _ => .inr (3, [.null, .int 0])) 1 sz)) (va_Qv (fun u : Nat → Nat => u 0 = b) (KQ D (oA (fun _ => b) 1 sz) (T3 cs) 2) (oA (fun _ => b) 1 sz)) 1 60 (oA (fun _ => b) 1 sz) := by
  refine st_E (by decide) (Nat.le_of_ble_eq_true rfl) (fun κ C hI E => ?_)
  refine e_lv (lv2 := [(0, .ref b)]) [0] rfl ?_
  refine e_aload_n C dX3_init_0 rfl 0 rfl ?_
  refine e_oinit C ml_X3_3 dX3_init_1 (Nat.le_of_ble_eq_true rfl) (Nat.le_of_ble_eq_true rfl) ?_
  refine e_aload_n C dX3_init_4 rfl 0 rfl ?_
  refine e_bipush C (nI 60) dX3_init_5 (by decide) ?_
  refine e_newa C (ty := .char) ac_char rfl 1 rfl (fun _ h => h) (N := 60) (a0 := (60, .inl (fun _ => 0))) (fun _ => rfl) (by decide) (by decide) (by decide) (by decide) (by decide) dX3_init_7 (fun q0 => ?_)
  refine e_putF C hI (Cn := RX3) (T := TX3) (N := 2) (id := 0) (by decide) inw_X3 tyX3_ok nmX3 rfl rfl rfl 0 (by decide) rfl fl_X3_9 rfl rfl (by first | rfl | decide) (by first | rfl | decide) (Nat.le_of_ble_eq_true rfl) dX3_init_9 ?_
  refine e_aload_n C dX3_init_12 rfl 0 rfl ?_
  refine e_iconst C (nI 0) dX3_init_13 (by decide) ?_
  refine e_put C (Cn := RX3) (T := TX3) (N := 2) (id := 0) (by decide) inw_X3 tyX3_ok nmX3 rfl rfl rfl 1 (by decide) rfl fl_X3_15 rfl (by first | rfl | decide) (by first | rfl | decide) (Nat.le_of_ble_eq_true rfl) dX3_init_14 ?_
  refine e_fin E (n2 := 2) (F2 := T3 cs) rfl (by decide) (by decide) dX3_init_17 rfl (fun ad hAD => ?_)
  exact (bl_s (bl_s bl_0 (by rw [hAD]; rfl)) (by rw [hAD]; rfl))
