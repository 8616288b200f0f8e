/-! ===== the first memory, and what the tables give (by hand) ===== -/
def M0 : Mm := (fun i j => if i = 136 then emZ0 j else if i < 117 then (if i % 13 = 0 then (if j = 0 then nI 4 else nI 3) else if i % 13 = 2 then (if j < 8 then nI 1 else 0) else 0) else if i = 127 then nI 1 else if i = 129 ∨ i = 132 ∨ i = 134 then (if j = 0 then nI 0 else -1) else if i = 117 ∨ i = 120 ∨ i = 123 ∨ i = 125 then nI 0 else 0, fun i _ => if i = 129 ∨ i = 132 ∨ i = 134 then -1 else 0)
/-- where the thing i lies among the cells as they are made -/
def aoff (i : Nat) : Nat := if i < 13 then 1 + i else if i < 39 then 109 + (i - 13) else if i < 117 then 19 + (i - 39) else if i = 117 then 0 else if i < 123 then 14 + (i - 118) else if i < 135 then 97 + (i - 123) else i
theorem ao_lt : ∀ i, i < 146 → aoff i < 146 := by
  have h : ∀ i : Fin 146, aoff i.val < 146 := by decide +kernel
  exact fun i hi => h ⟨i, hi⟩
theorem ao_inj : ∀ i j, i < 146 → j < 146 → aoff i = aoff j → i = j := by
  have h : ∀ i j : Fin 146, aoff i.val = aoff j.val → i.val = j.val := by decide +kernel
  exact fun i j hi hj => h ⟨i, hi⟩ ⟨j, hj⟩
/-- all addresses and cells when all is made -/
def adA (u7 u8 : Nat → Nat) (q : Nat) (i : Nat) : Nat := if i < 135 then u7 i else if i < 145 then u8 (i - 135) else q
def FA (cs : Nat → ClassId) (u7 u8 : Nat → Nat) (i : Nat) : va_E := if i < 135 then T7 cs u7 i else if i < 145 then T8 cs u8 (i - 135) else .inl (cs 3, 1, .inr (.inl (fun _ => 0)))
theorem M0_g {k j : Nat} (hk : k < 9) (hj : j < 13) : M0.1 (13 * k + j) = fun p => if j = 0 then (if p = 0 then nI 4 else nI 3) else if j = 2 then (if p < 8 then nI 1 else 0) else 0 := by
  funext p
  show (if 13 * k + j = 136 then _ else if 13 * k + j < 117 then _ else _) = _
  rw [if_neg (by omega), if_pos (by omega), show (13 * k + j) % 13 = j by omega]
theorem T4_wF {cs : Nat → ClassId} {v ad : Nat → Nat} {k : Nat} (hk : k < 9) (h : ∀ j, j < 13 → v j = ad (13 * k + j)) : ∀ j, j < 13 → T4 cs v j = wF cs ad (13 * k + j) (M0.1 (13 * k + j)) (M0.2 (13 * k + j)) := fun j hj => by
  rw [M0_g hk hj]
  by_cases h0 : j = 0
  · subst h0
    have := wF_O cs ad hk (fun p => if (0 : Nat) = 0 then (if p = 0 then nI 4 else nI 3) else if (0 : Nat) = 2 then (if p < 8 then nI 1 else 0) else 0) (M0.2 (13 * k + 0))
    refine Eq.trans ?_ this.symm
    unfold T4
    rw [if_pos rfl, h 1 (by decide), h 2 (by decide), h 3 (by decide), h 12 (by decide)]
    rfl
  · by_cases h3 : j = 3
    · subst h3
      refine Eq.trans ?_ (wF_L cs ad hk _ _).symm
      unfold T4
      rw [if_neg (by decide), if_pos rfl]
      refine congrArg (vq_row (cs 4) 8) (funext fun p => ?_)
      by_cases hp : p < 8
      · rw [if_pos hp, if_pos hp, h (4 + p) (by omega)]
        unfold gR
        rw [Nat.add_assoc]
      · rw [if_neg hp, if_neg hp]
    · by_cases h1 : j = 1
      · subst h1
        exact (wF_N cs ad hk _ _).symm
      · by_cases h2 : j = 2
        · subst h2
          exact (wF_W cs ad hk _ _).symm
        · unfold T4
          rw [if_neg h0, if_neg h3, if_neg h1, if_neg h2]
          have e : (fun p : Nat => if j = 0 then (if p = 0 then nI 4 else nI 3) else if j = 2 then (if p < 8 then nI 1 else 0) else (0 : Int32)) = fun _ => 0 := funext fun p => by rw [if_neg h0, if_neg h2]
          rw [e]
          unfold wF
          rw [if_pos (by omega), if_neg (by omega), if_neg (by omega), if_neg (by omega), if_neg (by omega)]
theorem FA_g {cs : Nat → ClassId} {u7 u8 : Nat → Nat} {q : Nat} {k : Nat} (hk : k < 9) {j : Nat} (hj : j < 13) : FA cs u7 u8 (aoff (13 * k + j)) = wF cs (fun i => adA u7 u8 q (aoff i)) (13 * k + j) (M0.1 (13 * k + j)) (M0.2 (13 * k + j)) := by
  by_cases h0 : k = 0
  · subst h0
    refine Eq.trans ?_ (T4_wF (v := fun p => u7 (1 + p)) (by decide) (fun p hp => ?_) j hj)
    · have e : aoff (13 * 0 + j) = 1 + j := by unfold aoff; rw [if_pos (by omega)]; omega
      rw [e]
      unfold FA T7
      rw [if_pos (by omega), if_neg (by omega), if_pos (by omega), show 1 + j - 1 = j by omega]
    · have e : aoff (13 * 0 + p) = 1 + p := by unfold aoff; rw [if_pos (by omega)]; omega
      show u7 (1 + p) = adA u7 u8 q (aoff (13 * 0 + p))
      rw [e]
      unfold adA
      rw [if_pos (by omega)]
  · by_cases h1 : k < 3
    · refine Eq.trans ?_ (T4_wF (v := fun p => u7 (109 + 13 * (k - 1) + p)) hk (fun p hp => ?_) j hj)
      · have e : aoff (13 * k + j) = 109 + 13 * (k - 1) + j := by unfold aoff; rw [if_neg (by omega), if_pos (by omega)]; omega
        rw [e]
        unfold FA T7
        rw [if_pos (by omega), if_neg (by omega), if_neg (by omega), if_neg (by omega), if_neg (by omega), if_neg (by omega), if_neg (by omega), if_neg (by omega), if_neg (by omega), if_neg (by omega), if_neg (by omega), show (109 + 13 * (k - 1) + j - 109) / 13 = k - 1 by omega, show (109 + 13 * (k - 1) + j - 109) % 13 = j by omega]
      · have e : aoff (13 * k + p) = 109 + 13 * (k - 1) + p := by unfold aoff; rw [if_neg (by omega), if_pos (by omega)]; omega
        show u7 (109 + 13 * (k - 1) + p) = adA u7 u8 q (aoff (13 * k + p))
        rw [e]
        unfold adA
        rw [if_pos (by omega)]
    · refine Eq.trans ?_ (T4_wF (v := fun p => u7 (16 + (3 + 13 * (k - 3) + p))) hk (fun p hp => ?_) j hj)
      · have e : aoff (13 * k + j) = 19 + 13 * (k - 3) + j := by unfold aoff; rw [if_neg (by omega), if_neg (by omega), if_pos (by omega)]; omega
        rw [e]
        unfold FA T7
        rw [if_pos (by omega), if_neg (by omega), if_neg (by omega), if_neg (by omega), if_neg (by omega), if_pos (by omega)]
        unfold T6
        rw [if_neg (by omega), if_neg (by omega), if_neg (by omega), show (19 + 13 * (k - 3) + j - 16 - 3) / 13 = k - 3 by omega, show (19 + 13 * (k - 3) + j - 16 - 3) % 13 = j by omega]
      · have e : aoff (13 * k + p) = 16 + (3 + 13 * (k - 3) + p) := by unfold aoff; rw [if_neg (by omega), if_neg (by omega), if_pos (by omega)]; omega
        show u7 (16 + (3 + 13 * (k - 3) + p)) = adA u7 u8 q (aoff (13 * k + p))
        rw [e]
        unfold adA
        rw [if_pos (by omega)]
theorem FA_ok {cs : Nat → ClassId} {u7 u8 : Nat → Nat} {q : Nat} (i : Nat) (hi : i < 146) : FA cs u7 u8 (aoff i) = wF cs (fun i => adA u7 u8 q (aoff i)) i (M0.1 i) (M0.2 i) := by
  by_cases h : i < 117
  · have := FA_g (cs := cs) (u7 := u7) (u8 := u8) (q := q) (k := i / 13) (by omega) (j := i % 13) (by omega)
    rw [show 13 * (i / 13) + i % 13 = i by omega] at this
    exact this
  · have h118 : FA cs u7 u8 (aoff 118) = wF cs (fun i => adA u7 u8 q (aoff i)) 118 (M0.1 118) (M0.2 118) := congrArg (vq_row (cs 5) 2) (funext fun j => by
      by_cases hj : j < 2
      · rcases (show j = 0 ∨ j = 1 by omega) with rfl | rfl <;> rfl
      · rw [if_neg hj, if_neg hj])
    have h121 : FA cs u7 u8 (aoff 121) = wF cs (fun i => adA u7 u8 q (aoff i)) 121 (M0.1 121) (M0.2 121) := congrArg (vq_row (cs 5) 6) (funext fun j => by
      by_cases hj : j < 6
      · rcases (show j = 0 ∨ j = 1 ∨ j = 2 ∨ j = 3 ∨ j = 4 ∨ j = 5 by omega) with rfl | rfl | rfl | rfl | rfl | rfl <;> rfl
      · rw [if_neg hj, if_neg hj])
    have hr : ∀ j, j < 29 → FA cs u7 u8 (aoff (117 + j)) = wF cs (fun i => adA u7 u8 q (aoff i)) (117 + j) (M0.1 (117 + j)) (M0.2 (117 + j)) := (bl_s (bl_s (bl_s (bl_s (bl_s (bl_s (bl_s (bl_s (bl_s (bl_s (bl_s (bl_s (bl_s (bl_s (bl_s (bl_s (bl_s (bl_s (bl_s (bl_s (bl_s (bl_s (bl_s (bl_s (bl_s (bl_s (bl_s (bl_s (bl_s bl_0 rfl) h118) rfl) rfl) h121) rfl) rfl) rfl) rfl) rfl) rfl) rfl) rfl) rfl) rfl) rfl) rfl) rfl) rfl) rfl) rfl) rfl) rfl) rfl) rfl) rfl) rfl) rfl) rfl)
    have := hr (i - 117) (by omega)
    rw [show 117 + (i - 117) = i by omega] at this
    exact this
theorem emZ_em : emZ0 = emR (fun _ => nI 0) 4 3 := by
  funext j
  unfold emZ0 emR
  by_cases h : j < 6
  · rcases (show j = 0 ∨ j = 1 ∨ j = 2 ∨ j = 3 ∨ j = 4 ∨ j = 5 by omega) with rfl | rfl | rfl | rfl | rfl | rfl <;> rfl
  · rw [if_neg (by omega), if_neg (by omega), if_neg h, if_neg (by omega), if_neg (by omega), if_neg (by omega)]
    split <;> rfl
theorem RR_0 : RR M0 := by
  have hz : M0.1 136 = emR (fun _ => nI 0) 4 3 := emZ_em
  have hg : gz (M0.1 136) 4 3 := by rw [hz]; exact gq_gz (gq_em (by decide) (by decide) (by decide) (by decide))
  refine ⟨0, 0, 0, fun _ => 0, ⟨4, 3, hg, rfl, rfl, fun v hv => ?_, fun v hv => ?_, fun v p hv hp => ?_, fun p hp => ?_⟩, rfl, fun k hk => ⟨?_, Or.inl rfl⟩, ⟨rfl, by decide, rfl, by decide, fun j hj => absurd hj (Nat.not_lt_zero j)⟩, ⟨rfl, by decide, fun k hk => absurd hk (Nat.not_lt_zero k)⟩, rfl, rfl, fun k hk => absurd hk (Nat.not_lt_zero k)⟩
  · rcases (show v = 0 ∨ v = 1 ∨ v = 2 ∨ v = 3 by omega) with rfl | rfl | rfl | rfl <;> rfl
  · rcases (show v = 0 ∨ v = 1 ∨ v = 2 ∨ v = 3 by omega) with rfl | rfl | rfl | rfl <;> rfl
  · rcases (show v = 0 ∨ v = 1 ∨ v = 2 ∨ v = 3 by omega) with rfl | rfl | rfl | rfl <;> rcases (show p = 0 ∨ p = 1 ∨ p = 2 ∨ p = 3 by omega) with rfl | rfl | rfl | rfl <;> rfl
  · rcases (show p = 0 ∨ p = 1 ∨ p = 2 ∨ p = 3 by omega) with rfl | rfl | rfl | rfl <;> rfl
  · rcases (show k = 0 ∨ k = 1 by omega) with rfl | rfl <;> rfl
/-- what lies where, told as the law's loop has it -/
theorem W0_of {D : va_G} {cs : Nat → ClassId} {A : Nat → Prop} {u7 u8 : Nat → Nat} {q : Nat} {H : Heap} (hP : va_P D vwCl (aW (adA u7 u8 q) (FA cs u7 u8) 146) H) (hD : va_D A (aW (adA u7 u8 q) (FA cs u7 u8) 146)) : va_P D vwCl (wW cs (fun i => adA u7 u8 q (aoff i)) M0) H ∧ va_D A (wW cs (fun i => adA u7 u8 q (aoff i)) M0) := by
  refine ⟨fun k x hx => ?_, fun i j a b ha hb e => ?_, fun k x hx => ?_⟩
  · obtain ⟨hk, rfl⟩ := wW_inv hx
    rw [← FA_ok (q := q) k hk]
    exact hP (aoff k) _ (aW_get (ao_lt k hk))
  · obtain ⟨hi, rfl⟩ := wW_inv ha
    obtain ⟨hj, rfl⟩ := wW_inv hb
    exact ao_inj i j hi hj (hD.1 (aoff i) (aoff j) _ _ (aW_get (ao_lt i hi)) (aW_get (ao_lt j hj)) e)
  · obtain ⟨hk, rfl⟩ := wW_inv hx
    exact hD.2 (aoff k) (adA u7 u8 q (aoff k), FA cs u7 u8 (aoff k)) (aW_get (ao_lt k hk))
theorem ar_of {args : Array Value} {s : State} {ty : FieldType} (h : (Cond.arrayClass ty).before args s = true) : ∃ cA : ClassId, ArrOfT s cA ty ∧ s.vm.findClass ("[" ++ ty.toString) = some cA := by
  obtain ⟨c, k, comp, h1, h2, h3⟩ := Cond.arrayClass_spec h
  exact ⟨c, fun n z => ⟨fun k h => (by cases h), k, h2, comp, h3⟩, h1⟩
theorem ar_ofA {args : Array Value} {s : State} (h : (Cond.arrayOver (.array .int)).before args s = true) : ∃ cA : ClassId, ArrOfT s cA (.array .int) ∧ va_RA s cA (.array .int) := by
  have h0 := h
  unfold Cond.before Cond.holds at h0
  simp only [Cond.value, beq_iff_eq] at h0
  rw [Option.bind_eq_some_iff] at h0
  obtain ⟨comp, h1, h0⟩ := h0
  rw [Option.bind_eq_some_iff] at h0
  obtain ⟨c, h2, h0⟩ := h0
  rw [Option.map_eq_some_iff] at h0
  obtain ⟨k, h3, h4⟩ := h0
  cases hk : k.kind with
  | array comp2 ty =>
    rw [hk] at h4
    simp only [Bool.and_eq_true, decide_eq_true_eq] at h4
    obtain ⟨rfl, h5⟩ := h4
    exact ⟨c, fun n z => ⟨fun k h => (by cases h), k, h3, comp2, hk⟩, h5⟩
  | _ => rw [hk] at h4; cases h4
theorem ar_ofO {args : Array Value} {s : State} (h : (Cond.arrayOver (.object RX4)).before args s = true) : ∃ cA : ClassId, ArrOfT s cA (.object RX4) ∧ va_RA s cA (.object RX4) := by
  obtain ⟨comp, c, k, h1, h2, h3, h4, h5⟩ := Cond.arrayOver_spec h
  exact ⟨c, fun n z => ⟨fun k h => (by cases h), k, h3, comp, h4⟩, k, comp, h3, h4, h1, h5⟩
