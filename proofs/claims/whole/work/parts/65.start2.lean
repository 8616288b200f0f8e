/-! ===== what the start gives (by hand) ===== -/
theorem k_start {args : Array Value} {s : State} (hts : ∀ w ∈ TT, w.before args s = true) (hO : (Cond.arrayOver (.object RX4)).before args s = true) (hA : (Cond.arrayOver (.array .int)).before args s = true) : ∃ (D : va_G) (cs : Nat → ClassId), va_K D vwCl (tyC cs) s := by
  obtain ⟨c0, i0, k0⟩ := u_known (C := RX0) (T := TX0) (N := 4) hts inw_X0 (hts _ ib_X0)
  obtain ⟨c1, i1, k1⟩ := u_known (C := RX1) (T := TX1) (N := 2) hts inw_X1 (hts _ ib_X1)
  obtain ⟨c2, i2, k2⟩ := u_known (C := RX2) (T := TX2) (N := 2) hts inw_X2 (hts _ ib_X2)
  obtain ⟨c3, i3, k3⟩ := u_known (C := RX3) (T := TX3) (N := 2) hts inw_X3 (hts _ ib_X3)
  obtain ⟨c4, i4, k4⟩ := u_known (C := RX4) (T := TX4) (N := 6) hts inw_X4 (hts _ ib_X4)
  obtain ⟨c5, i5, k5⟩ := u_known (C := RX5) (T := TX5) (N := 4) hts inw_X5 (hts _ ib_X5)
  obtain ⟨c6, i6, k6⟩ := u_known (C := RX6) (T := TX6) (N := 4) hts inw_X6 (hts _ ib_X6)
  obtain ⟨c7, i7, k7⟩ := u_known (C := RX7) (T := TX7) (N := 10) hts inw_X7 (hts _ ib_X7)
  obtain ⟨c8, i8, k8⟩ := u_known (C := RX8) (T := TX8) (N := 18) hts inw_X8 (hts _ ib_X8)
  obtain ⟨a0, p0, q0⟩ := ar_of (hts _ ac_int)
  obtain ⟨a1, p1, q1⟩ := ar_of (hts _ ac_char)
  obtain ⟨a2, p2, q2⟩ := ar_of (hts _ ac_boolean)
  obtain ⟨a3, p3, q3⟩ := ar_of (hts _ ac_long)
  obtain ⟨a4, p4, q4⟩ := ar_ofA hA
  obtain ⟨a5, p5, q5⟩ := ar_ofO hO
  refine ⟨(fun k => match k with | 0 => c0 | 1 => c1 | 2 => c2 | 3 => c3 | 4 => c4 | 5 => c5 | 6 => c6 | 7 => c7 | _ => c8, fun k => match k with | 0 => i0 | 1 => i1 | 2 => i2 | 3 => i3 | 4 => i4 | 5 => i5 | 6 => i6 | 7 => i7 | _ => i8), fun k => match k with | 0 => a0 | 1 => a1 | 2 => a2 | 3 => a3 | 4 => a4 | _ => a5, fun k q hq => ?_, fun k q hq => ?_⟩
  · match k, hq with
    | 0, hq => cases hq; exact k0
    | 1, hq => cases hq; exact k1
    | 2, hq => cases hq; exact k2
    | 3, hq => cases hq; exact k3
    | 4, hq => cases hq; exact k4
    | 5, hq => cases hq; exact k5
    | 6, hq => cases hq; exact k6
    | 7, hq => cases hq; exact k7
    | 8, hq => cases hq; exact k8
    | k + 9, hq => exact absurd hq (by simp [vwCl])
  · match k, hq with
    | 0, hq => cases hq; exact ⟨p0, q0⟩
    | 1, hq => cases hq; exact ⟨p1, q1⟩
    | 2, hq => cases hq; exact ⟨p2, q2⟩
    | 3, hq => cases hq; exact ⟨p3, q3⟩
    | 4, hq => cases hq; exact ⟨p4, q4⟩
    | 5, hq => cases hq; exact ⟨p5, q5⟩
    | k + 6, hq => exact absurd hq (by simp [tyC])
theorem x_start {args : Array Value} {s : State} {A : Nat → Prop} (hts : ∀ w ∈ lw_tbl, w.before args s = true) (hgv : (Jvm.Cond.and given_1 narrow_1).before args s = true) (hA : ∀ a : Nat, a < s.heap.size → ¬ A a) : xX A s s.heap := by
  have hs := flat_of_before _ hgv
  refine ⟨vx_Zqof (args := args) (hts _ (by decide +kernel)) (hts _ (by decide +kernel)) (hs _ (by decide +kernel)) hA, vx_Zqof (args := args) (hts _ (by decide +kernel)) (hts _ (by decide +kernel)) (hs _ (by decide +kernel)) hA, fun q hq => ?_, fun w hw => va_Nw.of (xk_ot (xNw_k w hw)) (hts w (of_decide_eq_true (List.all_eq_true.mp (show xNw.all (fun w => decide (w ∈ lw_tbl)) = true by decide +kernel) w hw))), fun q hq => va_Nc.of (hs _ (of_decide_eq_true (List.all_eq_true.mp (show xNc.all (fun q => decide (Cond.not (.castable q.1 q.2) ∈ flatC (Jvm.Cond.and given_1 narrow_1))) = true by decide +kernel) q hq)))⟩
  have h1 := of_decide_eq_true (List.all_eq_true.mp (show xTx.all (fun q => decide (Cond.stringRef RX7 q.1 q.2 ∈ lw_tbl)) = true by decide +kernel) q hq)
  have h2 := of_decide_eq_true (List.all_eq_true.mp (show xTx.all (fun q => decide (Cond.exactly (.string RX7 q.1) "java/lang/String" ∈ flatC (Jvm.Cond.and given_1 narrow_1))) = true by decide +kernel) q hq)
  obtain ⟨a, c, cA, kA, g1, -⟩ := Cond.exactly_spec (args := args) (first := s) (o := none) (s := s) (idx := []) (t := Term.string RX7 q.1) (cls := "java/lang/String") (hs _ h2)
  exact ⟨a, vk_R.of (hts _ h1) g1⟩
theorem n_start {args : Array Value} {s : State} (hts : ∀ w ∈ lw_tbl, w.before args s = true) : ∀ w ∈ eNw, va_Nw w s := fun w hw => va_Nw.of (xk_ot (eNw_k w hw)) (hts w (of_decide_eq_true (List.all_eq_true.mp (show eNw.all (fun w => decide (w ∈ lw_tbl)) = true by decide +kernel) w hw)))
theorem f_start {l : Launch} (h : l.flags = flags0) : l.stackTraces = false := by
  unfold Launch.stackTraces
  rw [h]
  decide +kernel
