/-! ===== pure: colors in range, texts alike, the relation kept (by hand) ===== -/
theorem fsm_some {α : Type} {g : Nat → Option α} {x : α} : ∀ {r a : Nat}, fsm g r a = some x → ∃ j, a ≤ j ∧ j < a + r ∧ g j = some x
  | 0, a, h => by unfold fsm at h; cases h
  | r + 1, a, h => by
    unfold fsm at h
    cases q : g a with
    | some w => rw [q] at h; exact ⟨a, Nat.le_refl _, by omega, by rw [q]; exact h⟩
    | none =>
      rw [q] at h
      obtain ⟨j, h1, h2, h3⟩ := fsm_some (r := r) h
      exact ⟨j, by omega, by omega, h3⟩
theorem tr_lt {z : Nat → Int32} {K : Nat} : ∀ {m v : Nat} {c x : Nat → Int32}, tryC z K m v c = some x → (∀ j, j < v → ∃ a, a < K ∧ c j = nI a) → ∀ j, j < v + m → ∃ a, a < K ∧ x j = nI a
  | 0, v, c, x, h, hc, j, hj => by
    unfold tryC at h
    cases h
    exact hc j (by omega)
  | m + 1, v, c, x, h, hc, j, hj => by
    unfold tryC at h
    obtain ⟨a, -, ha, h3⟩ := fsm_some h
    by_cases q : okS z c v a v = true
    · rw [if_pos q] at h3
      refine tr_lt (m := m) h3 (fun i hi => ?_) j (by omega)
      by_cases e : i = v
      · subst e; rw [upd_e]; exact ⟨a, by omega, rfl⟩
      · rw [upd_n _ _ e]; exact hc i (by omega)
    · rw [if_neg q] at h3; cases h3
theorem cr_lt {z : Nat → Int32} {n : Nat} (hn : n ≤ 8) (hn1 : 1 ≤ n) : ∀ j, j < n → ∃ a, a < cnK z n ∧ crs z n j = nI a := fun j hj => by
  have h := fi_yes (co_ex z hn hn1)
  unfold crs cnK
  cases q : cfC z n (fi (fun k => (cfC z n k).isSome) n) with
  | none => rw [q] at h; cases h
  | some x => exact tr_lt (m := n) (v := 0) q (fun i hi => absurd hi (Nat.not_lt_zero i)) j (by omega)
-- texts
-- the relation
theorem lk_rf (M : Mm) : lkP M M := fun _ _ => ⟨rfl, rfl⟩
theorem lk_eq {M M9 : Mm} (h : M9 = M) : lkP M M9 := by rw [h]; exact lk_rf M
theorem lk_fn {z : Nat → Int32} {n : Nat} {M M9 : Mm} (h : fnP z n M M9) : lkP M M9 := fun i hi => ⟨h.1 i (by omega) (by omega), by rw [h.2.1]⟩
