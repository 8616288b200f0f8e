/-! ===== the share's bits (by hand) ===== -/
theorem fpx_vf {r : UInt64} (h : FP.Core.val64 r ≠ .nan) : vf_n64 r := by
  unfold vf_n64
  rw [UInt64.le_iff_toNat_le, FP.Core.mask_toNat]
  exact (FP.Core.ne_nan r).mp h
theorem fpx_n {x : UInt64} {e t : Nat} (h : x.toNat = e * 2 ^ 52 + t) (he : e ≤ 2046) (ht : t < 2 ^ 52) : FP.Core.val64 x ≠ .nan := by
  rw [FP.Core.ne_nan]; omega
theorem fpx_norm {x : UInt64} {e t : Nat} (h : x.toNat = e * 2 ^ 52 + t) (h1 : 1 ≤ e) (he : e ≤ 2046) (ht : t < 2 ^ 52) : FP.Core.val64 x = .fin false (2 ^ 52 + t) ((e : Int) - 1075) := by
  have a1 : FP.Core.fieldE FP.Core.b64 x.toNat = e := by
    show x.toNat / 2 ^ 52 % 2048 = e
    rw [h]; omega
  have a2 : FP.Core.fieldT FP.Core.b64 x.toNat = t := by
    show x.toNat % 2 ^ 52 = t
    rw [h]; omega
  have a3 : FP.Core.fieldS FP.Core.b64 x.toNat = false := by
    show (x.toNat / 2 ^ 52 / 2048 % 2 == 1) = false
    rw [h, show (e * 2 ^ 52 + t) / 2 ^ 52 / 2048 % 2 = 0 by omega]; rfl
  show FP.Core.decode FP.Core.b64 x.toNat = _
  unfold FP.Core.decode
  rw [a1, a2, a3, if_neg (by show ¬ e = 2048 - 1; omega), if_neg (by omega), FP.Core.qmin_b64, FP.Core.tails_b64]
  congr 1
  omega
theorem fpx_of {x : UInt64} {e t : Nat} (h1 : 1 ≤ e) (he : e ≤ 2046) (ht : t < 2 ^ 52) (h : FP.Core.val64 x = .fin false (2 ^ 52 + t) ((e : Int) - 1075)) : x.toNat = e * 2 ^ 52 + t := by
  have b : e * 2 ^ 52 + t < 2 ^ 64 := by omega
  have e1 : (UInt64.ofNat (e * 2 ^ 52 + t)).toNat = e * 2 ^ 52 + t := UInt64.toNat_ofNat_of_lt' (by simpa using b)
  have e2 := FP.Core.val64_inj (a := x) (b := UInt64.ofNat (e * 2 ^ 52 + t)) (by rw [h]; exact FP.Core.Datum.noConfusion) (by rw [h, fpx_norm e1 h1 he ht])
  rw [e2, e1]
theorem fpx_dbl {x : UInt64} {e t : Nat} (h : x.toNat = e * 2 ^ 52 + t) (h1 : 1 ≤ e) (he : e ≤ 2045) (ht : t < 2 ^ 52) : (FP.dmul x 4611686018427387904).toNat = (e + 1) * 2 ^ 52 + t := by
  refine fpx_of (by omega) (by omega) ht ?_
  show FP.Core.val64 (FP.Core.dmul x 4611686018427387904) = _
  rw [FP.Core.val64_dmul, fpx_norm h h1 (by omega) ht, fpx_norm (x := 4611686018427387904) (e := 1024) (t := 0) rfl (by decide) (by decide) (by decide)]
  show FP.Core.roundRatio FP.Core.b64 false ((2 ^ 52 + t) * (2 ^ 52 + 0)) 1 ((e : Int) - 1075 + ((1024 : Nat) - 1075)) = _
  refine FP.Core.roundRatio_exact FP.Core.good_b64 (by decide) ⟨?_, ?_, ?_, Or.inr ?_⟩ ?_
  · show 2 ^ 52 + t < 2 ^ 53; omega
  · rw [FP.Core.qmin_b64]; omega
  · show ((e + 1 : Nat) : Int) - 1075 ≤ 971; omega
  · rw [FP.Core.tails_b64]; omega
  · rw [show ((e : Int) - 1075 + ((1024 : Nat) - 1075) - (((e + 1 : Nat) : Int) - 1075)).toNat = 0 by omega, show ((((e + 1 : Nat) : Int) - 1075) - ((e : Int) - 1075 + ((1024 : Nat) - 1075))).toNat = 52 by omega]
    omega
theorem fpx_dsc {x : UInt64} {e t : Nat} (h : x.toNat = e * 2 ^ 52 + t) (h1 : 1 ≤ e) (ht : t < 2 ^ 52) : ∀ {j : Nat}, e + j ≤ 2046 → (dsc x j).toNat = (e + j) * 2 ^ 52 + t
  | 0, _ => h
  | j + 1, hj => by
    show (FP.dmul (dsc x j) 4611686018427387904).toNat = _
    rw [fpx_dbl (fpx_dsc h h1 ht (j := j) (by omega)) (by omega) (by omega) ht]
    rfl
theorem fpx_lt1 {x : UInt64} {e t : Nat} (h : x.toNat = e * 2 ^ 52 + t) (he : e < 1023) (ht : t < 2 ^ 52) : ¬ 0 ≤ Op.cmpValue (FP.dcmp x FP.dconst1) .g := by
  have e1 : (FP.dconst1).toNat = 1023 * 2 ^ 52 := rfl
  have q : FP.dcmp x FP.dconst1 = some .lt := by
    refine (FP.Core.dcmp_lt_key (fpx_n h (by omega) ht) (by decide +kernel)).mpr ?_
    unfold FP.Core.dkey
    rw [if_neg (by omega), if_neg (by omega)]
    omega
  rw [q]; decide
theorem fpx_ge1 {x : UInt64} {t : Nat} (h : x.toNat = 1023 * 2 ^ 52 + t) (ht : t < 2 ^ 52) : 0 ≤ Op.cmpValue (FP.dcmp x FP.dconst1) .g := by
  have e1 : (FP.dconst1).toNat = 1023 * 2 ^ 52 := rfl
  have q : FP.dcmp x FP.dconst1 = some .gt ∨ FP.dcmp x FP.dconst1 = some .eq := by
    by_cases t0 : t = 0
    · refine Or.inr ((FP.Core.dcmp_eq_key (fpx_n h (by omega) ht) (by decide +kernel)).mpr ?_)
      unfold FP.Core.dkey
      rw [if_neg (by omega), if_neg (by omega)]
      omega
    · refine Or.inl ((FP.Core.dcmp_gt_key (fpx_n h (by omega) ht) (by decide +kernel)).mpr ?_)
      unfold FP.Core.dkey
      rw [if_neg (by omega), if_neg (by omega)]
      omega
  rcases q with q | q <;> rw [q] <;> decide
theorem fpx_gt0 {x : UInt64} {e t : Nat} (h : x.toNat = e * 2 ^ 52 + t) (h1 : 1 ≤ e) (he : e ≤ 2046) (ht : t < 2 ^ 52) : ¬ Op.cmpValue (FP.dcmp x 0) .g ≤ 0 := by
  have q : FP.dcmp x 0 = some .gt := by
    refine (FP.Core.dcmp_gt_key (fpx_n h (by omega) ht) (by decide +kernel)).mpr ?_
    unfold FP.Core.dkey
    rw [if_neg (by decide), if_neg (by omega)]
    show (0 : Int) < _
    omega
  rw [q]; decide
theorem fpx_dnn {x : UInt64} (h : FP.Core.val64 x ≠ .nan) : dnn x := by
  unfold dnn
  have q : FP.dcmp x x = some .eq := FP.Core.dcmp_self h
  rw [q]; rfl
theorem fpx_frac {x : UInt64} {t : Nat} (h : x.toNat = 1023 * 2 ^ 52 + t) (ht : t < 2 ^ 52) : ∃ c q, FP.Core.val64 (FP.dsub x FP.dconst1) = .fin false c q ∧ -1074 ≤ q ∧ c * 2 ^ (q + 1074).toNat = t * 2 ^ 1022 := by
  have e0 : FP.Core.val64 (FP.Core.dsub x FP.Core.dconst1) = FP.Core.round FP.Core.b64 (.fin false t (-52)) := by
    rw [FP.Core.val64_dsub, fpx_norm h (by omega) (by omega) ht, FP.Core.val64_dconst1]
    show FP.Core.round FP.Core.b64 (.fin (FP.Core.sumSign false true (FP.Core.sumUnits false (2 ^ 52 + t) ((1023 : Nat) - 1075) true (2 ^ 52) (-52) (min ((1023 : Nat) - 1075) (-52)))) (FP.Core.sumUnits false (2 ^ 52 + t) ((1023 : Nat) - 1075) true (2 ^ 52) (-52) (min ((1023 : Nat) - 1075) (-52))).natAbs (min ((1023 : Nat) - 1075) (-52))) = _
    have eu : FP.Core.sumUnits false (2 ^ 52 + t) (((1023 : Nat) : Int) - 1075) true (2 ^ 52) (-52) (min (((1023 : Nat) : Int) - 1075) (-52)) = (t : Int) := by
      rw [show min (((1023 : Nat) : Int) - 1075) (-52) = -52 by omega]
      unfold FP.Core.sumUnits FP.Core.inUnits FP.Core.signed
      rw [show ((((1023 : Nat) : Int) - 1075) - -52).toNat = 0 by omega, show ((-52 : Int) - -52).toNat = 0 by omega]
      simp only [Bool.false_eq_true, if_false, if_true]
      omega
    rw [eu, show min (((1023 : Nat) : Int) - 1075) (-52) = -52 by omega]
    have es : FP.Core.sumSign false true (t : Int) = false := by
      unfold FP.Core.sumSign
      by_cases q : t = 0
      · subst q; rfl
      · rw [if_neg (by omega)]; exact decide_eq_false (by omega)
    rw [es, Int.natAbs_natCast]
  have hr := FP.Core.round_exact FP.Core.good_b64 false (c := t) (q := -52) (show t < 2 ^ 53 by omega) (by rw [FP.Core.qmin_b64]; decide) (by decide)
  obtain ⟨c, q, h1, h2⟩ := hr
  have hf : FP.Core.fits FP.Core.b64 (.fin false c q) := by rw [← h1]; exact FP.Core.round_fits FP.Core.good_b64 _
  have hq : FP.Core.b64.qmin ≤ q := hf.2.1
  rw [FP.Core.qmin_b64] at hq
  refine ⟨c, q, e0.trans h1, hq, ?_⟩
  unfold FP.Core.inUnits at h2
  rw [FP.Core.qmin_b64] at h2
  rw [show q + 1074 = q - -1074 by omega]
  exact h2
theorem fpx_mant {x : UInt64} {t : Nat} (h : x.toNat = 1023 * 2 ^ 52 + t) (ht : t < 2 ^ 52) : vf_n64 (FP.dsub x FP.dconst1) ∧ vf_n64 (FP.dmul (FP.dsub x FP.dconst1) 4841369599423283200) ∧ FP.d2l (FP.dmul (FP.dsub x FP.dconst1) 4841369599423283200) = lN t := by
  obtain ⟨c, q, h1, h2, h3⟩ := fpx_frac h ht
  have hw : FP.Core.Whole (t : Int) (FP.Core.exactProduct (FP.Core.val64 (FP.dsub x FP.dconst1)) (FP.Core.val64 4841369599423283200)) := by
    rw [h1, fpx_norm (x := 4841369599423283200) (e := 1075 + 52 - 52) (t := 0) (by decide +kernel) (by decide) (by decide) (by decide)]
    show FP.Core.signed false (c * (2 ^ 52 + 0) * 2 ^ (q + (((1075 + 52 - 52 : Nat) : Int) - 1075)).toNat) = (t : Int) * ((2 ^ (-(q + (((1075 + 52 - 52 : Nat) : Int) - 1075))).toNat : Nat) : Int)
    rw [show q + (((1075 + 52 - 52 : Nat) : Int) - 1075) = q by omega]
    show ((c * (2 ^ 52 + 0) * 2 ^ q.toNat : Nat) : Int) = _
    rw [← Int.natCast_mul]
    congr 1
    have p : 0 < 2 ^ 1022 := Nat.two_pow_pos _
    refine Nat.eq_of_mul_eq_mul_right p ?_
    rw [Nat.mul_right_comm t, ← h3]
    have e2 : (q + 1074).toNat + (-q).toNat = 52 + q.toNat + 1022 := by omega
    calc c * (2 ^ 52 + 0) * 2 ^ q.toNat * 2 ^ 1022 = c * (2 ^ 52 * 2 ^ q.toNat * 2 ^ 1022) := by rw [Nat.add_zero, Nat.mul_assoc (c * 2 ^ 52), Nat.mul_assoc c, ← Nat.mul_assoc (2 ^ 52)]
      _ = c * 2 ^ (52 + q.toNat + 1022) := by rw [Nat.pow_add, Nat.pow_add]
      _ = c * 2 ^ ((q + 1074).toNat + (-q).toNat) := by rw [e2]
      _ = c * 2 ^ (q + 1074).toNat * 2 ^ (-q).toNat := by rw [Nat.pow_add, Nat.mul_assoc]
  have hD : FP.Core.DInt (t : Int) (FP.Core.dmul (FP.Core.dsub x FP.Core.dconst1) 4841369599423283200) := by
    unfold FP.Core.DInt
    rw [FP.Core.val64_dmul]
    exact FP.Core.whole_round FP.Core.good_b64 FP.Core.wide_b64 (show _ ≤ 2 ^ 53 by omega) hw
  refine ⟨fpx_vf ?_, fpx_vf (FP.Core.DInt_ne_nan hD), ?_⟩
  · show FP.Core.val64 (FP.dsub x FP.dconst1) ≠ .nan
    rw [h1]; exact FP.Core.Datum.noConfusion
  · refine FP.Core.d2l_int (a := lN t) ?_
    rw [pk_lT (n := t) (by omega)]
    exact hD
/-- a whole number's double -/
theorem fpx_l2d {P : Nat} (h : P < 2 ^ 53) : ∃ c q, FP.Core.val64 (FP.l2d (lN P)) = .fin false c q ∧ c * 2 ^ q.toNat = P * 2 ^ (-q).toNat ∧ (c = 0 ↔ P = 0) := by
  have e : (lN P).toInt = (P : Int) := pk_lT (n := P) (by omega)
  obtain ⟨c, q, h1⟩ := FP.Core.l2d_shape (lN P)
  rw [e, decide_eq_false (by omega)] at h1
  have hw := FP.Core.l2d_int (a := lN P) (by rw [e]; omega)
  unfold FP.Core.DInt at hw
  rw [h1, e] at hw
  refine ⟨c, q, h1, ?_, ?_⟩
  · have := FP.Core.whole_natAbs hw
    rw [Int.natAbs_natCast] at this
    exact this
  · have := FP.Core.whole_zero hw
    rw [this]; omega
theorem fpx_div {P A : Nat} (hP : P < 2 ^ 53) (hA : A < 2 ^ 53) (hA0 : 0 < A) : FP.Core.val64 (FP.ddiv (FP.l2d (lN P)) (FP.l2d (lN A))) = FP.Core.roundRatio FP.Core.b64 false P A 0 := by
  obtain ⟨c, q, h1, h2, h3⟩ := fpx_l2d hP
  obtain ⟨d, r, g1, g2, g3⟩ := fpx_l2d hA
  show FP.Core.val64 (FP.Core.ddiv (FP.l2d (lN P)) (FP.l2d (lN A))) = _
  rw [FP.Core.val64_ddiv, h1, g1]
  show (if d = 0 then (if c = 0 then .nan else .inf (false != false)) else FP.Core.roundRatio FP.Core.b64 (false != false) c d (q - r)) = _
  have hd : ¬ d = 0 := fun w => by have := g3.mp w; omega
  rw [if_neg hd]
  refine FP.Core.roundRatio_congr (by omega) hA0 ?_
  refine Nat.eq_of_mul_eq_mul_right (Nat.two_pow_pos (q.toNat + (-r).toNat)) ?_
  have e2 : (-q).toNat + r.toNat + (q - r - 0).toNat = (0 - (q - r)).toNat + (q.toNat + (-r).toNat) := by omega
  calc c * A * 2 ^ (q - r - 0).toNat * 2 ^ (q.toNat + (-r).toNat) = (c * 2 ^ q.toNat) * (A * 2 ^ (-r).toNat) * 2 ^ (q - r - 0).toNat := by rw [Nat.pow_add]; ac_rfl
    _ = (P * 2 ^ (-q).toNat) * (d * 2 ^ r.toNat) * 2 ^ (q - r - 0).toNat := by rw [h2, g2]
    _ = P * d * 2 ^ ((-q).toNat + r.toNat + (q - r - 0).toNat) := by rw [Nat.pow_add, Nat.pow_add]; ac_rfl
    _ = P * d * 2 ^ (0 - (q - r)).toNat * 2 ^ (q.toNat + (-r).toNat) := by rw [e2, Nat.pow_add, Nat.mul_assoc (P * d)]
theorem fpx_zm {y : UInt64} {e : Nat} (h : y.toNat = e * 2 ^ 52) (h1 : 1 ≤ e) (he : e ≤ 2046) : FP.Core.zmag FP.Core.b64 (FP.Core.val64 y) = 2 ^ (51 + e) := by
  rw [fpx_norm (t := 0) (h.trans (Nat.add_zero _).symm) h1 he (by decide)]
  unfold FP.Core.zmag FP.Core.inUnits
  dsimp only
  rw [FP.Core.qmin_b64]
  rw [show (((e : Int) - 1075) - -1074).toNat = e - 1 by omega, Nat.add_zero, ← Nat.pow_add]
  congr 1
  omega
theorem fpx_share {P A : Nat} (hP : 1 ≤ P) (hPA : P ≤ A) (hA : A < 2 ^ 31) : ∃ e t, 992 ≤ e ∧ e ≤ 1023 ∧ t < 2 ^ 52 ∧ (FP.ddiv (FP.l2d (lN P)) (FP.l2d (lN A))).toNat = e * 2 ^ 52 + t := by
  have h0 := fpx_div (P := P) (A := A) (by omega) (by omega) (by omega)
  generalize FP.ddiv (FP.l2d (lN P)) (FP.l2d (lN A)) = x at h0
  have hn : FP.Core.val64 x ≠ .nan := by rw [h0]; exact FP.Core.roundRatio_ne_nan _ _ _ _ _
  have hz := FP.Core.zmag_bits hn
  have y1 : (4607182418800017408 : UInt64).toNat = 1023 * 2 ^ 52 := rfl
  have y2 : (4467570830351532032 : UInt64).toNat = 992 * 2 ^ 52 := rfl
  have n1 : FP.Core.val64 4607182418800017408 ≠ .nan := fpx_n (e := 1023) (t := 0) y1 (by decide) (by decide)
  have n2 : FP.Core.val64 4467570830351532032 ≠ .nan := fpx_n (e := 992) (t := 0) y2 (by decide) (by decide)
  have p : 2 ^ 1043 * A ≤ 2 ^ 1043 * 2 ^ 31 := Nat.mul_le_mul (Nat.le_refl _) (by omega)
  have hle := FP.Core.zmag_roundRatio_le FP.Core.good_b64 (s := false) (A := P) (B := A) (e := 0) (e0 := FP.Core.b64.qmin) (V := FP.Core.val64 4607182418800017408) (by omega) (FP.Core.val64_fits _) n1 (Int.le_refl _) (by decide) (by
    rw [fpx_zm y1 (by decide) (by decide)]
    unfold FP.Core.inUnits
    rw [FP.Core.qmin_b64, Int.sub_self, Int.toNat_zero, Nat.pow_zero, Nat.mul_one, show ((0 : Int) - -1074).toNat = 51 + 1023 from rfl, Nat.mul_comm]
    exact Nat.mul_le_mul (Nat.le_refl _) hPA)
  have hge := FP.Core.zmag_roundRatio_ge FP.Core.good_b64 (s := false) (A := P) (B := A) (e := 0) (e0 := FP.Core.b64.qmin) (V := FP.Core.val64 4467570830351532032) (by omega) (FP.Core.val64_fits _) (Int.le_refl _) (by decide) (by
    rw [fpx_zm y2 (by decide) (by decide)]
    unfold FP.Core.inUnits
    rw [FP.Core.qmin_b64, Int.sub_self, Int.toNat_zero, Nat.pow_zero, Nat.mul_one, show ((0 : Int) - -1074).toNat = 1043 + 31 from rfl]
    refine Nat.le_trans p ?_
    rw [← Nat.pow_add]
    generalize 2 ^ (1043 + 31) = G
    exact Nat.le_mul_of_pos_left G hP)
  rw [← h0, hz, FP.Core.zmag_bits n1, FP.Core.unitsOf_le_iff, y1] at hle
  rw [← h0, hz, FP.Core.zmag_bits n2, FP.Core.unitsOf_le_iff, y2] at hge
  have hs := FP.Core.sgn_bits hn
  rw [h0, FP.Core.sgn_roundRatio] at hs
  have hs2 : ¬ 2 ^ 63 ≤ x.toNat := of_decide_eq_false hs.symm
  refine ⟨x.toNat / 2 ^ 52, x.toNat % 2 ^ 52, by omega, by omega, by omega, by omega⟩
theorem fpx_bits {x : UInt64} {e t : Nat} (h1 : 992 ≤ e) (he : e ≤ 1023) (ht : t < 2 ^ 52) (h : x.toNat = e * 2 ^ 52 + t) : bitsOK x := by
  have hK : e + (1023 - e) = 1023 := by omega
  have hx := fpx_dsc h (by omega) ht (j := 1023 - e) (by omega)
  rw [hK] at hx
  have hm := fpx_mant hx ht
  refine Or.inr ⟨fpx_gt0 h (by omega) (by omega) ht, 1023 - e, by omega, fun j hj => fpx_lt1 (fpx_dsc h (by omega) ht (j := j) (by omega)) (by omega) ht, fpx_ge1 hx ht, fun j hj => ?_, hm.1, hm.2.1, ?_⟩
  · have := fpx_dbl (fpx_dsc h (by omega) ht (j := j) (by omega)) (by omega) (by omega) ht
    exact fpx_vf (fpx_n this (by omega) ht)
  · rw [hm.2.2]
    have e1 : 1023 - lN (1023 - e) = lN e := by
      rw [show (1023 : Int64) = lN 1023 from rfl, lN_sub (by omega), show 1023 - (1023 - e) = e by omega]
    rw [e1]
    have e2 : lN e <<< ((nI 52).toInt64 &&& 63) = lN (e * 2 ^ 52) := by
      have h9 : ∀ i : Fin 32, lN (992 + i.val) <<< ((nI 52).toInt64 &&& 63) = lN ((992 + i.val) * 2 ^ 52) := by decide +kernel
      have := h9 ⟨e - 992, by omega⟩
      rw [show 992 + (⟨e - 992, by omega⟩ : Fin 32).val = e from (by show 992 + (e - 992) = e; omega)] at this
      exact this
    rw [e2, lN_add, ← h]
    refine Int64.toBitVec_inj.mp ?_
    show BitVec.ofNat 64 x.toNat = x.toBitVec
    rw [← UInt64.toNat_toBitVec, BitVec.ofNat_toNat, BitVec.setWidth_eq]
