/-! ===== the first memory, and what the tables give (written by wip/p30/gen/start30.py) ===== -/
def M0 : Mm := (fun i j => if i < 117 then (if i % 13 = 0 then (if j = 0 then nI 4 else nI 3) else if i % 13 = 2 then (if j < 8 then nI 1 else 0) else 0) else if i = 127 then nI 1 else if i = 129 ∨ i = 132 ∨ i = 134 then (if j = 0 then nI 0 else -1) else if i = 117 ∨ i = 120 ∨ i = 123 ∨ i = 125 then nI 0 else 0, fun i _ => if i = 129 ∨ i = 132 ∨ i = 134 then -1 else 0)
/-- where the thing i lies among the cells as they are made -/
def aoff (i : Nat) : Nat := if i < 13 then 1 + i else if i < 39 then 109 + (i - 13) else if i < 117 then 19 + (i - 39) else if i = 117 then 0 else if i < 123 then 14 + (i - 118) else if i < 135 then 97 + (i - 123) else i
theorem ao_lt : ∀ i, i < 140 → aoff i < 140 := by
  have h : ∀ i : Fin 140, aoff i.val < 140 := by decide +kernel
  exact fun i hi => h ⟨i, hi⟩
theorem ao_inj : ∀ i j, i < 140 → j < 140 → aoff i = aoff j → i = j := by
  have h : ∀ i j : Fin 140, aoff i.val = aoff j.val → i.val = j.val := by decide +kernel
  exact fun i j hi hj => h ⟨i, hi⟩ ⟨j, hj⟩
/-- all addresses and cells when all is made -/
def adA (u7 : Nat → Nat) (q0 q1 q2 q3 q4 : Nat) (i : Nat) : Nat := if i < 135 then u7 i else if i = 135 then q0 else if i = 136 then q1 else if i = 137 then q2 else if i = 138 then q3 else q4
def FA (cs : Nat → ClassId) (u7 : Nat → Nat) (i : Nat) : va_E := if i < 135 then T7 cs u7 i else if i = 135 then .inl (cs 0, 3, .inl (fun _ => 0)) else if i = 136 then .inl (cs 0, 4, .inl (fun _ => 0)) else if i = 137 then .inl (cs 0, 20, .inl (fun _ => 0)) else if i = 138 then .inl (cs 0, 20, .inl (fun _ => 0)) else .inl (cs 0, 4, .inl (fun _ => 0))
def adF (u7 : Nat → Nat) (q0 q1 q2 q3 q4 : Nat) (i : Nat) : Nat := if i = 1000 then 0 else adA u7 q0 q1 q2 q3 q4 (aoff i)
theorem adF_lo {u7 : Nat → Nat} {q0 q1 q2 q3 q4 i : Nat} (h : i < 200) : adF u7 q0 q1 q2 q3 q4 i = adA u7 q0 q1 q2 q3 q4 (aoff i) := if_neg (by omega)
theorem M0_g {k j : Nat} (hk : k < 9) (hj : j < 13) : M0.1 (13 * k + j) = fun p => if j = 0 then (if p = 0 then nI 4 else nI 3) else if j = 2 then (if p < 8 then nI 1 else 0) else 0 := by
  funext p
  show (if 13 * k + j < 117 then _ else _) = _
  rw [if_pos (by omega), show (13 * k + j) % 13 = j by omega]
theorem T4_wF {cs : Nat → ClassId} {v ad : Nat → Nat} {k : Nat} (hk : k < 9) (h : ∀ j, j < 13 → v j = ad (13 * k + j)) : ∀ j, j < 13 → T4 cs v j = wF cs ad (13 * k + j) (M0.1 (13 * k + j)) (M0.2 (13 * k + j)) := fun j hj => by
  rw [M0_g hk hj]
  by_cases h0 : j = 0
  · subst h0
    have := wF_O cs ad hk (fun p => if (0 : Nat) = 0 then (if p = 0 then nI 4 else nI 3) else if (0 : Nat) = 2 then (if p < 8 then nI 1 else 0) else 0) (M0.2 (13 * k + 0))
    refine Eq.trans ?_ this.symm
    unfold T4
    rw [if_pos rfl, h 1 (by decide), h 2 (by decide), h 3 (by decide), h 12 (by decide)]
    rfl
  · by_cases h3 : j = 3
    · subst h3
      refine Eq.trans ?_ (wF_L cs ad hk _ _).symm
      unfold T4
      rw [if_neg (by decide), if_pos rfl]
      refine congrArg (vq_row (cs 4) 8) (funext fun p => ?_)
      by_cases hp : p < 8
      · rw [if_pos hp, if_pos hp, h (4 + p) (by omega)]
        unfold gR
        rw [Nat.add_assoc]
      · rw [if_neg hp, if_neg hp]
    · by_cases h1 : j = 1
      · subst h1
        exact (wF_N cs ad hk _ _).symm
      · by_cases h2 : j = 2
        · subst h2
          exact (wF_W cs ad hk _ _).symm
        · unfold T4
          rw [if_neg h0, if_neg h3, if_neg h1, if_neg h2]
          have e : (fun p : Nat => if j = 0 then (if p = 0 then nI 4 else nI 3) else if j = 2 then (if p < 8 then nI 1 else 0) else (0 : Int32)) = fun _ => 0 := funext fun p => by rw [if_neg h0, if_neg h2]
          rw [e]
          unfold wF
          rw [if_pos (by omega), if_neg (by omega), if_neg (by omega), if_neg (by omega), if_neg (by omega)]
theorem FA_g {cs : Nat → ClassId} {u7 : Nat → Nat} {q0 q1 q2 q3 q4 : Nat} {k : Nat} (hk : k < 9) {j : Nat} (hj : j < 13) : FA cs u7 (aoff (13 * k + j)) = wF cs (adF u7 q0 q1 q2 q3 q4) (13 * k + j) (M0.1 (13 * k + j)) (M0.2 (13 * k + j)) := by
  by_cases h0 : k = 0
  · subst h0
    refine Eq.trans ?_ (T4_wF (v := fun p => u7 (1 + p)) (by decide) (fun p hp => ?_) j hj)
    · have e : aoff (13 * 0 + j) = 1 + j := by unfold aoff; rw [if_pos (by omega)]; omega
      rw [e]
      unfold FA T7
      rw [if_pos (by omega), if_neg (by omega), if_pos (by omega), show 1 + j - 1 = j by omega]
    · have e : aoff (13 * 0 + p) = 1 + p := by unfold aoff; rw [if_pos (by omega)]; omega
      rw [adF_lo (by omega), e]
      unfold adA
      rw [if_pos (by omega)]
  · by_cases h1 : k < 3
    · refine Eq.trans ?_ (T4_wF (v := fun p => u7 (109 + 13 * (k - 1) + p)) hk (fun p hp => ?_) j hj)
      · have e : aoff (13 * k + j) = 109 + 13 * (k - 1) + j := by unfold aoff; rw [if_neg (by omega), if_pos (by omega)]; omega
        rw [e]
        unfold FA T7
        rw [if_pos (by omega), if_neg (by omega), if_neg (by omega), if_neg (by omega), if_neg (by omega), if_neg (by omega), if_neg (by omega), if_neg (by omega), if_neg (by omega), if_neg (by omega), if_neg (by omega), show (109 + 13 * (k - 1) + j - 109) / 13 = k - 1 by omega, show (109 + 13 * (k - 1) + j - 109) % 13 = j by omega]
      · have e : aoff (13 * k + p) = 109 + 13 * (k - 1) + p := by unfold aoff; rw [if_neg (by omega), if_pos (by omega)]; omega
        rw [adF_lo (by omega), e]
        unfold adA
        rw [if_pos (by omega)]
    · refine Eq.trans ?_ (T4_wF (v := fun p => u7 (16 + (3 + 13 * (k - 3) + p))) hk (fun p hp => ?_) j hj)
      · have e : aoff (13 * k + j) = 19 + 13 * (k - 3) + j := by unfold aoff; rw [if_neg (by omega), if_neg (by omega), if_pos (by omega)]; omega
        rw [e]
        unfold FA T7
        rw [if_pos (by omega), if_neg (by omega), if_neg (by omega), if_neg (by omega), if_neg (by omega), if_pos (by omega)]
        unfold T6
        rw [if_neg (by omega), if_neg (by omega), if_neg (by omega), show (19 + 13 * (k - 3) + j - 16 - 3) / 13 = k - 3 by omega, show (19 + 13 * (k - 3) + j - 16 - 3) % 13 = j by omega]
      · have e : aoff (13 * k + p) = 16 + (3 + 13 * (k - 3) + p) := by unfold aoff; rw [if_neg (by omega), if_neg (by omega), if_pos (by omega)]; omega
        rw [adF_lo (by omega), e]
        unfold adA
        rw [if_pos (by omega)]
theorem FA_ok {cs : Nat → ClassId} {u7 : Nat → Nat} {q0 q1 q2 q3 q4 : Nat} (i : Nat) (hi : i < 140) : FA cs u7 (aoff i) = wF cs (adF u7 q0 q1 q2 q3 q4) i (M0.1 i) (M0.2 i) := by
  by_cases h : i < 117
  · have := FA_g (cs := cs) (u7 := u7) (q0 := q0) (q1 := q1) (q2 := q2) (q3 := q3) (q4 := q4) (k := i / 13) (by omega) (j := i % 13) (by omega)
    rw [show 13 * (i / 13) + i % 13 = i by omega] at this
    exact this
  · have h118 : FA cs u7 (aoff 118) = wF cs (adF u7 q0 q1 q2 q3 q4) 118 (M0.1 118) (M0.2 118) := congrArg (vq_row (cs 5) 2) (funext fun j => by
      by_cases hj : j < 2
      · rcases (show j = 0 ∨ j = 1 by omega) with rfl | rfl <;> rfl
      · rw [if_neg hj, if_neg hj])
    have h121 : FA cs u7 (aoff 121) = wF cs (adF u7 q0 q1 q2 q3 q4) 121 (M0.1 121) (M0.2 121) := congrArg (vq_row (cs 5) 6) (funext fun j => by
      by_cases hj : j < 6
      · rcases (show j = 0 ∨ j = 1 ∨ j = 2 ∨ j = 3 ∨ j = 4 ∨ j = 5 by omega) with rfl | rfl | rfl | rfl | rfl | rfl <;> rfl
      · rw [if_neg hj, if_neg hj])
    have hr : ∀ j, j < 23 → FA cs u7 (aoff (117 + j)) = wF cs (adF u7 q0 q1 q2 q3 q4) (117 + j) (M0.1 (117 + j)) (M0.2 (117 + j)) := (bl_s (bl_s (bl_s (bl_s (bl_s (bl_s (bl_s (bl_s (bl_s (bl_s (bl_s (bl_s (bl_s (bl_s (bl_s (bl_s (bl_s (bl_s (bl_s (bl_s (bl_s (bl_s (bl_s bl_0 rfl) h118) rfl) rfl) h121) rfl) rfl) rfl) rfl) rfl) rfl) rfl) rfl) rfl) rfl) rfl) rfl) rfl) rfl) rfl) rfl) rfl) rfl)
    have := hr (i - 117) (by omega)
    rw [show 117 + (i - 117) = i by omega] at this
    exact this
/-- what lies where, told as the law's loop has it -/
theorem W0_of {D : va_G} {cs : Nat → ClassId} {A : Nat → Prop} {u7 : Nat → Nat} {q0 q1 q2 q3 q4 : Nat} {H : Heap} (hP : va_P D vwCl (aW (adA u7 q0 q1 q2 q3 q4) (FA cs u7) 140) H) (hD : va_D A (aW (adA u7 q0 q1 q2 q3 q4) (FA cs u7) 140)) : va_P D vwCl (wW cs (adF u7 q0 q1 q2 q3 q4) M0) H ∧ va_D A (wW cs (adF u7 q0 q1 q2 q3 q4) M0) := by
  refine ⟨fun k x hx => ?_, fun i j a b ha hb e => ?_, fun k x hx => ?_⟩
  · obtain ⟨hk, rfl⟩ := wW_inv hx
    have hk : k < 140 := hk
    rw [← FA_ok (q0 := q0) (q1 := q1) (q2 := q2) (q3 := q3) (q4 := q4) k hk, adF_lo (show k < 200 by omega)]
    exact hP (aoff k) _ (aW_get (ao_lt k hk))
  · obtain ⟨hi, rfl⟩ := wW_inv ha
    have hi : i < 140 := hi
    obtain ⟨hj, rfl⟩ := wW_inv hb
    have hj : j < 140 := hj
    exact ao_inj i j hi hj (hD.1 (aoff i) (aoff j) _ _ (aW_get (ao_lt i hi)) (aW_get (ao_lt j hj)) (by
      have e2 : adF u7 q0 q1 q2 q3 q4 i = adF u7 q0 q1 q2 q3 q4 j := e
      rw [adF_lo (show i < 200 by omega), adF_lo (show j < 200 by omega)] at e2; exact e2))
  · obtain ⟨hk, rfl⟩ := wW_inv hx
    have hk : k < 140 := hk
    show A (adF u7 q0 q1 q2 q3 q4 k)
    rw [adF_lo (show k < 200 by omega)]
    exact hD.2 (aoff k) (adA u7 q0 q1 q2 q3 q4 (aoff k), FA cs u7 (aoff k)) (aW_get (ao_lt k hk))
theorem ar_of {args : Array Value} {s : State} {ty : FieldType} (h : (Cond.arrayClass ty).before args s = true) : ∃ cA : ClassId, ArrOfT s cA ty ∧ s.vm.findClass ("[" ++ ty.toString) = some cA := by
  obtain ⟨c, k, comp, h1, h2, h3⟩ := Cond.arrayClass_spec h
  exact ⟨c, fun n z => ⟨fun k h => (by cases h), k, h2, comp, h3⟩, h1⟩
theorem ar_ofA {args : Array Value} {s : State} (h : (Cond.arrayOver (.array .int)).before args s = true) : ∃ cA : ClassId, ArrOfT s cA (.array .int) ∧ va_RA s cA (.array .int) := by
  have h0 := h
  unfold Cond.before Cond.holds at h0
  simp only [Cond.value, beq_iff_eq] at h0
  rw [Option.bind_eq_some_iff] at h0
  obtain ⟨comp, h1, h0⟩ := h0
  rw [Option.bind_eq_some_iff] at h0
  obtain ⟨c, h2, h0⟩ := h0
  rw [Option.map_eq_some_iff] at h0
  obtain ⟨k, h3, h4⟩ := h0
  cases hk : k.kind with
  | array comp2 ty =>
    rw [hk] at h4
    simp only [Bool.and_eq_true, decide_eq_true_eq] at h4
    obtain ⟨rfl, h5⟩ := h4
    exact ⟨c, fun n z => ⟨fun k h => (by cases h), k, h3, comp2, hk⟩, h5⟩
  | _ => rw [hk] at h4; cases h4
theorem ar_ofO {args : Array Value} {s : State} (h : (Cond.arrayOver (.object RX4)).before args s = true) : ∃ cA : ClassId, ArrOfT s cA (.object RX4) ∧ va_RA s cA (.object RX4) := by
  obtain ⟨comp, c, k, h1, h2, h3, h4, h5⟩ := Cond.arrayOver_spec h
  exact ⟨c, fun n z => ⟨fun k h => (by cases h), k, h3, comp, h4⟩, k, comp, h3, h4, h1, h5⟩
theorem k_start {args : Array Value} {s : State} (hts : ∀ w ∈ TT, w.before args s = true) (hO : (Cond.arrayOver (.object RX4)).before args s = true) (hA : (Cond.arrayOver (.array .int)).before args s = true) : ∃ (D : va_G) (cs : Nat → ClassId), va_K D vwCl (tyC cs) s := by
  obtain ⟨c0, i0, k0⟩ := u_known (C := RX0) (T := TX0) (N := 4) hts inw_X0 (hts _ ib_X0)
  obtain ⟨c1, i1, k1⟩ := u_known (C := RX1) (T := TX1) (N := 2) hts inw_X1 (hts _ ib_X1)
  obtain ⟨c2, i2, k2⟩ := u_known (C := RX2) (T := TX2) (N := 2) hts inw_X2 (hts _ ib_X2)
  obtain ⟨c3, i3, k3⟩ := u_known (C := RX3) (T := TX3) (N := 2) hts inw_X3 (hts _ ib_X3)
  obtain ⟨c4, i4, k4⟩ := u_known (C := RX4) (T := TX4) (N := 6) hts inw_X4 (hts _ ib_X4)
  obtain ⟨c5, i5, k5⟩ := u_known (C := RX5) (T := TX5) (N := 4) hts inw_X5 (hts _ ib_X5)
  obtain ⟨c6, i6, k6⟩ := u_known (C := RX6) (T := TX6) (N := 4) hts inw_X6 (hts _ ib_X6)
  obtain ⟨c7, i7, k7⟩ := u_known (C := RX7) (T := TX7) (N := 10) hts inw_X7 (hts _ ib_X7)
  obtain ⟨a0, p0, q0⟩ := ar_of (hts _ ac_int)
  obtain ⟨a1, p1, q1⟩ := ar_of (hts _ ac_char)
  obtain ⟨a2, p2, q2⟩ := ar_of (hts _ ac_boolean)
  obtain ⟨a3, p3, q3⟩ := ar_of (hts _ ac_byte)
  obtain ⟨a4, p4, q4⟩ := ar_ofA hA
  obtain ⟨a5, p5, q5⟩ := ar_ofO hO
  refine ⟨(fun k => match k with | 0 => c0 | 1 => c1 | 2 => c2 | 3 => c3 | 4 => c4 | 5 => c5 | 6 => c6 | _ => c7, fun k => match k with | 0 => i0 | 1 => i1 | 2 => i2 | 3 => i3 | 4 => i4 | 5 => i5 | 6 => i6 | _ => i7), fun k => match k with | 0 => a0 | 1 => a1 | 2 => a2 | 3 => a3 | 4 => a4 | _ => a5, fun k q hq => ?_, fun k q hq => ?_⟩
  · match k, hq with
    | 0, hq => cases hq; exact k0
    | 1, hq => cases hq; exact k1
    | 2, hq => cases hq; exact k2
    | 3, hq => cases hq; exact k3
    | 4, hq => cases hq; exact k4
    | 5, hq => cases hq; exact k5
    | 6, hq => cases hq; exact k6
    | 7, hq => cases hq; exact k7
    | k + 8, hq => exact absurd hq (by simp [vwCl])
  · match k, hq with
    | 0, hq => cases hq; exact ⟨p0, q0⟩
    | 1, hq => cases hq; exact ⟨p1, q1⟩
    | 2, hq => cases hq; exact ⟨p2, q2⟩
    | 3, hq => cases hq; exact ⟨p3, q3⟩
    | 4, hq => cases hq; exact ⟨p4, q4⟩
    | 5, hq => cases hq; exact ⟨p5, q5⟩
    | k + 6, hq => exact absurd hq (by simp [tyC])
theorem x_start {args : Array Value} {s : State} {A : Nat → Prop} (hts : ∀ w ∈ lw_tbl, w.before args s = true) : xX A s s.heap := fun w hw => va_Nw.of (xk_ot (xNw_k w hw)) (hts w (of_decide_eq_true (List.all_eq_true.mp (show xNw.all (fun w => decide (w ∈ lw_tbl)) = true by decide +kernel) w hw)))
theorem n_start {args : Array Value} {s : State} (hts : ∀ w ∈ lw_tbl, w.before args s = true) : ∀ w ∈ eNw, va_Nw w s := fun w hw => va_Nw.of (xk_ot (eNw_k w hw)) (hts w (of_decide_eq_true (List.all_eq_true.mp (show eNw.all (fun w => decide (w ∈ lw_tbl)) = true by decide +kernel) w hw)))
/-- the first state: class and law hold it alike -/
theorem CS_0 {M : Mm} (h : ∀ i, i < 125 → M.1 i = M0.1 i) : CS M (emR (fun _ => nI 0) 4 3) 4 3 (fun _ _ => false) 0 := by
  refine lk_CS (M := M0) ⟨gq_em (by decide) (by decide) (by decide) (by decide), by decide, fun _ _ => rfl, ⟨rfl, rfl, fun v hv => ?_, fun v hv => ?_, fun v p hv hp => ?_, fun p hp => ?_⟩, rfl, fun k hk => ?_, by decide, rfl, 0, by decide, rfl⟩ h
  · rcases (show v = 0 ∨ v = 1 ∨ v = 2 ∨ v = 3 by omega) with rfl | rfl | rfl | rfl <;> rfl
  · rcases (show v = 0 ∨ v = 1 ∨ v = 2 ∨ v = 3 by omega) with rfl | rfl | rfl | rfl <;> rfl
  · rcases (show v = 0 ∨ v = 1 ∨ v = 2 ∨ v = 3 by omega) with rfl | rfl | rfl | rfl <;> rcases (show p = 0 ∨ p = 1 ∨ p = 2 ∨ p = 3 by omega) with rfl | rfl | rfl | rfl <;> rfl
  · rcases (show p = 0 ∨ p = 1 ∨ p = 2 ∨ p = 3 by omega) with rfl | rfl | rfl | rfl <;> rfl
  · rcases (show k = 0 ∨ k = 1 by omega) with rfl | rfl <;> rfl
theorem LR_0 {M : Mm} (h0 : M.1 135 0 = nI 4) (h1 : M.1 135 1 = nI 3) (h2 : ∀ v, v < 4 → M.1 136 v = nI 1) (h3 : ∀ i, 137 ≤ i → i < 140 → M.1 i = M0.1 i) : LR M (emR (fun _ => nI 0) 4 3) 4 3 (fun _ _ => false) := by
  refine ⟨h0, h1, fun v hv => ?_, fun p q hp hq => ?_, fun v p hv hp => ?_, fun p hp => ?_⟩
  · rw [h2 v hv]; unfold emR; rw [if_neg (by omega), if_neg (by omega), if_pos (by omega)]
  · rw [h3 137 (by decide) (by decide)]; rfl
  · rw [h3 138 (by decide) (by decide)]; unfold emR; rw [if_neg (by omega), if_neg (by omega), if_neg (by omega), if_pos (by omega)]; rfl
  · rw [h3 139 (by decide) (by decide)]; unfold emR; rw [if_neg (by omega), if_neg (by omega), if_neg (by omega), if_pos (by omega)]; rfl
theorem ST_W {M M2 : Mm} (h : ST M) (hk : lkW M M2) : ST M2 := by
  obtain ⟨z, n, d, e, s, h1, h2, h3⟩ := h
  exact ⟨z, n, d, e, s, lk_CS h1 (fun i hi => (hk i (by omega) (by omega)).1), lk_LR h2 (fun i g1 g2 => (hk i (by omega) (by omega)).1), by rw [(hk 135 (by decide) (by decide)).1]; exact h3⟩
