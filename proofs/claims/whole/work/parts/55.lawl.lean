/-! ===== the law's loop (written by wip/whole/gen/lawl.py) ===== -/
theorem lp_c {L i : Nat} (hL : L ≤ 2048) (hi : i ≤ 4096) : (nI L - nI 4 < nI i) ↔ L < i + 4 := by
  rw [Int32.lt_iff_toInt_lt, pk_sub_toInt (by omega) (by omega), nI_toInt (by omega)]; omega
set_option maxRecDepth 100000 in
set_option maxHeartbeats 4000000 in
/-- the law's loop: from its head, in any state that class and reference hold alike, to its end -/
theorem LC_loop {l : Launch} {D : va_G} {cs : Nat → ClassId} {ad : Nat → Nat} {κ : Kx} (C : CX D cs ad cL_law 9 RL 2048 84000 512 κ) (hN : CN ad κ) (hfl : l.stackTraces = false) {b9 L : Nat} {xs : Nat → Int32} (hSc : CSX ad b9 L xs κ) (hL : L ≤ 2048) (hFP : FPH) (kE : ∀ (u : Nat) (M : Mm) (i9 : Nat), u ≤ 512 → VV l D cs ad 9 κ u M 1590 [(0, .ref b9), (1, .ref (ad 117)), (2, .ref (ad 135)), (3, .ref (ad 145)), (4, .int (nI i9))] []) : ∀ (f i9 u : Nat) (M : Mm), L + 1 ≤ i9 + f → i9 ≤ L → 4 * u ≤ i9 → RR M → VV l D cs ad 9 κ u M 23 [(0, .ref b9), (1, .ref (ad 117)), (2, .ref (ad 135)), (3, .ref (ad 145)), (4, .int (nI i9))] [] := by
  intro f
  induction f with
  | zero => intro i9 u M h1 h2; exact absurd h1 (by omega)
  | succ f ih =>
    intro i9 u M h1 h2 h3 hR
    refine r_iload C dL_law_23 4 rfl ?_
    refine r_aload_n C dL_law_25 rfl 0 rfl ?_
    refine r_slen C hSc dL_law_26 ?_
    refine r_iconst C (nI 4) dL_law_27 (by decide) ?_
    refine r_isub C dL_law_28 ?_
    refine r_icmp_gt C 1590 dL_law_29 (by decide) (fun hg => ?_) (fun hg => ?_)
    · exact kE u M i9 (by omega)
    rw [lp_c hL (by omega)] at hg
    have hj : i9 + 4 ≤ L := by omega
    have k9 : ∀ (u2 : Nat) (M2 : Mm), RR M2 → u2 ≤ u + 1 → VV l D cs ad 9 κ u2 M2 1584 [(0, .ref b9), (1, .ref (ad 117)), (2, .ref (ad 135)), (3, .ref (ad 145)), (4, .int (nI i9))] [] := fun u2 M2 hR2 hu2 => by
      refine r_iinc C (nI (i9 + 4)) [(4, .int (nI (i9 + 4))), (0, .ref b9), (1, .ref (ad 117)), (2, .ref (ad 135)), (3, .ref (ad 145))] dL_law_1584 (j := 4) rfl (inc_n i9 4) (by decide) rfl ?_
      refine r_goto C 23 dL_law_1587 (by decide) ?_
      refine r_lv (lv2 := [(0, .ref b9), (1, .ref (ad 117)), (2, .ref (ad 135)), (3, .ref (ad 145)), (4, .int (nI (i9 + 4)))]) [1, 2, 3, 4, 0] rfl ?_
      exact ih (i9 + 4) u2 M2 (by omega) (by omega) (by omega) hR2
    obtain ⟨s9, lt, len, ct, n, d, hX⟩ := RR_X hR
    have hu : u + 1 ≤ 512 := by omega
    refine r_aload_n C dL_law_32 rfl 0 rfl ?_
    refine r_iload C dL_law_33 4 rfl ?_
    refine r_sld C hSc (by omega) hL dL_law_35 ?_
    refine r_bipush C (nI 31) dL_law_36 (by decide) ?_
    refine r_iand C dL_law_38 ?_
    obtain ⟨j, hj32, ej⟩ := pk_andE (xs i9) (m := nI 31) 5 (by decide)
    refine r_topi (w := nI j) ej ?_
    have hj32 : j < 32 := hj32
    rcases (show j = 0 ∨ j = 1 ∨ j = 2 ∨ j = 3 ∨ j = 4 ∨ j = 5 ∨ j = 6 ∨ j = 7 ∨ j = 8 ∨ j = 9 ∨ j = 10 ∨ j = 11 ∨ j = 12 ∨ j = 13 ∨ j = 14 ∨ j = 15 ∨ j = 16 ∨ j = 17 ∨ j = 18 ∨ j = 19 ∨ j = 20 ∨ j = 21 ∨ j = 22 ∨ j = 23 ∨ j = 24 ∨ j = 25 ∨ j = 26 ∨ 26 < j by omega) with rfl | rfl | rfl | rfl | rfl | rfl | rfl | rfl | rfl | rfl | rfl | rfl | rfl | rfl | rfl | rfl | rfl | rfl | rfl | rfl | rfl | rfl | rfl | rfl | rfl | rfl | rfl | hsw
    · refine r_tableIn C 160 dL_law_39 (by decide) (by decide) rfl (by decide) ?_
      exact LC_begin C hN hfl hSc hL hj hX hu k9
    · refine r_tableIn C 228 dL_law_39 (by decide) (by decide) rfl (by decide) ?_
      exact LC_join C hN hfl hSc hL hj hX hu k9
    · refine r_tableIn C 324 dL_law_39 (by decide) (by decide) rfl (by decide) ?_
      exact LC_weigh C hN hfl hSc hL hj hX hu k9
    · refine r_tableIn C 392 dL_law_39 (by decide) (by decide) rfl (by decide) ?_
      exact LC_complement C hN hfl hSc hL hj hX hu k9
    · refine r_tableIn C 405 dL_law_39 (by decide) (by decide) rfl (by decide) ?_
      exact LC_remove C hN hfl hSc hL hj hX hu k9
    · refine r_tableIn C 461 dL_law_39 (by decide) (by decide) rfl (by decide) ?_
      exact LC_multiply C hN hfl hSc hL hj hX hu k9
    · refine r_tableIn C 517 dL_law_39 (by decide) (by decide) rfl (by decide) ?_
      exact LC_label C hN hfl hSc hL hj hX hu k9
    · refine r_tableIn C 597 dL_law_39 (by decide) (by decide) rfl (by decide) ?_
      exact LC_hold C hN hfl hSc hL hj hX hu k9
    · refine r_tableIn C 665 dL_law_39 (by decide) (by decide) rfl (by decide) ?_
      exact LC_labelByColors C hN hfl hSc hL hj hX hu k9
    · refine r_tableIn C 709 dL_law_39 (by decide) (by decide) rfl (by decide) ?_
      exact LC_takeHandle C hN hfl hSc hL hj hX hu k9
    · refine r_tableIn C 765 dL_law_39 (by decide) (by decide) rfl (by decide) ?_
      exact LC_append C hN hfl hSc hL hj hX hu k9
    · refine r_tableIn C 821 dL_law_39 (by decide) (by decide) rfl (by decide) ?_
      exact LC_clearBuffer C hN hfl hSc hL hj hX hu k9
    · refine r_tableIn C 834 dL_law_39 (by decide) (by decide) rfl (by decide) ?_
      exact LC_firstError C hN hfl hSc hL hj hX hu k9
    · refine r_tableIn C 847 dL_law_39 (by decide) (by decide) rfl (by decide) ?_
      exact LC_read C hN hfl hSc hL hj hX hu k9
    · refine r_tableIn C 891 dL_law_39 (by decide) (by decide) rfl (by decide) ?_
      exact LC_take C hN hfl hSc hL hj hX hu k9
    · refine r_tableIn C 947 dL_law_39 (by decide) (by decide) rfl (by decide) ?_
      exact LC_restore C hN hfl hSc hL hj hX hu k9
    · refine r_tableIn C 1003 dL_law_39 (by decide) (by decide) rfl (by decide) ?_
      exact LC_undo C hN hfl hSc hL hj hX hu k9
    · refine r_tableIn C 1047 dL_law_39 (by decide) (by decide) rfl (by decide) ?_
      exact LC_joined C hN hfl hSc hL hj hX hu k9
    · refine r_tableIn C 1115 dL_law_39 (by decide) (by decide) rfl (by decide) ?_
      exact LC_vertex C hN hfl hSc hL hj hX hu k9
    · refine r_tableIn C 1183 dL_law_39 (by decide) (by decide) rfl (by decide) ?_
      exact LC_handle C hN hfl hSc hL hj hX hu k9
    · refine r_tableIn C 1239 dL_law_39 (by decide) (by decide) rfl (by decide) ?_
      exact LC_bound C hN hfl hSc hL hj hX hu k9
    · refine r_tableIn C 1294 dL_law_39 (by decide) (by decide) rfl (by decide) ?_
      exact LC_whyNot C hN hfl hSc hL hj hX hu k9
    · refine r_tableIn C 1350 dL_law_39 (by decide) (by decide) rfl (by decide) ?_
      exact LC_whyNotMultiply C hN hfl hSc hL hj hX hu k9
    · refine r_tableIn C 1406 dL_law_39 (by decide) (by decide) rfl (by decide) ?_
      exact LC_bestHandle C hN hfl hSc hL hj hX hu k9
    · refine r_tableIn C 1473 dL_law_39 (by decide) (by decide) rfl (by decide) ?_
      exact LC_count C hN hfl hSc hL hj hX hu k9
    · refine r_tableIn C 1529 dL_law_39 (by decide) (by decide) rfl (by decide) ?_
      exact LC_nearness C hN hfl hSc hL hj hX hu hFP k9
    · refine r_tableIn C 1570 dL_law_39 (by decide) (by decide) rfl (by decide) ?_
      exact LC_digest C hN hfl hSc hL hj hX hu hFP k9
    · refine r_tableOut C 1584 dL_law_39 (Or.inr (by rw [nI_toInt (by omega)]; omega)) (by decide) ?_
      exact k9 u M hR (by omega)
