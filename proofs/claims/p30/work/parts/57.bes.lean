/-! ===== a clique's weight is no greater than the bound (by hand) ===== -/
def dvI (a b : Nat → Int) : Int := a 0 * b 0 + a 1 * b 1 + a 2 * b 2 + a 3 * b 3
def beD (I : Nat → Bool) (U : Nat → Int) : Nat → Int
  | 0 => 1
  | v + 1 => if I v = true then U v * beD I U v else beD I U v
def beT (I : Nat → Bool) (U s : Nat → Int) : Nat → Int
  | 0 => 0
  | v + 1 => if I v = true then U v * beT I U s v + s v * s v * beD I U v else beT I U s v
theorem beD_p {I : Nat → Bool} {U : Nat → Int} : ∀ {n : Nat}, (∀ v, v < n → I v = true → 0 < U v) → 0 < beD I U n
  | 0, _ => show (0 : Int) < 1 by decide
  | n + 1, h => by
    have h1 := beD_p (I := I) (U := U) (n := n) (fun v hv => h v (by omega))
    unfold beD
    split
    · rename_i q
      exact Int.mul_pos (h n (by omega) q) h1
    · exact h1
theorem beT_k {I : Nat → Bool} {U s t : Nat → Int} {k : Int} : ∀ {n : Nat}, (∀ v, v < n → I v = true → t v = k * s v) → beT I U t n = k * k * beT I U s n
  | 0, _ => by unfold beT; rw [Int.mul_zero]
  | n + 1, h => by
    have h1 := beT_k (I := I) (U := U) (n := n) (fun v hv => h v (by omega))
    unfold beT
    split
    · rename_i q
      rw [h1, h n (by omega) q]
      grind
    · exact h1
theorem bes {u : Nat → Nat → Int} {I : Nat → Bool} : ∀ {n : Nat}, (∀ a b, a < b → b < n → I a = true → I b = true → dvI (u a) (u b) = 0) → (∀ v, v < n → I v = true → 0 < dvI (u v) (u v)) → ∀ c : Nat → Int, beT I (fun v => dvI (u v) (u v)) (fun v => dvI c (u v)) n ≤ dvI c c * beD I (fun v => dvI (u v) (u v)) n
  | 0, _, _, c => by
    show (0 : Int) ≤ dvI c c * 1
    unfold dvI
    have h0 : ∀ x : Int, 0 ≤ x * x := fun x => by rw [← Int.natAbs_mul_self]; omega
    have := h0 (c 0); have := h0 (c 1); have := h0 (c 2); have := h0 (c 3)
    omega
  | n + 1, ho, hp, c => by
    have ih := bes (u := u) (I := I) (n := n) (fun a b hab hb => ho a b hab (by omega)) (fun v hv => hp v (by omega))
    have hD := beD_p (I := I) (U := fun v => dvI (u v) (u v)) (n := n) (fun v hv => hp v (by omega))
    show (if I n = true then dvI (u n) (u n) * beT I (fun v => dvI (u v) (u v)) (fun v => dvI c (u v)) n + dvI c (u n) * dvI c (u n) * beD I (fun v => dvI (u v) (u v)) n else beT I (fun v => dvI (u v) (u v)) (fun v => dvI c (u v)) n) ≤ dvI c c * (if I n = true then dvI (u n) (u n) * beD I (fun v => dvI (u v) (u v)) n else beD I (fun v => dvI (u v) (u v)) n)
    by_cases q : I n = true
    · rw [if_pos q, if_pos q]
      have hU := hp n (by omega) q
      have h2 := ih (fun p => dvI (u n) (u n) * c p - dvI c (u n) * u n p)
      have ek := beT_k (I := I) (U := fun v => dvI (u v) (u v)) (s := fun v => dvI c (u v)) (t := fun v => dvI (fun p => dvI (u n) (u n) * c p - dvI c (u n) * u n p) (u v)) (k := dvI (u n) (u n)) (n := n) (fun v hv hI => by
        have h0 := ho v n hv (by omega) hI q
        generalize dvI (u n) (u n) = W
        generalize dvI c (u n) = s
        unfold dvI at h0 ⊢
        dsimp only
        grind)
      rw [ek] at h2
      have ec : dvI (fun p => dvI (u n) (u n) * c p - dvI c (u n) * u n p) (fun p => dvI (u n) (u n) * c p - dvI c (u n) * u n p) = dvI (u n) (u n) * (dvI (u n) (u n) * dvI c c - dvI c (u n) * dvI c (u n)) := by
        unfold dvI
        dsimp only
        grind
      rw [ec] at h2
      generalize beT I (fun v => dvI (u v) (u v)) (fun v => dvI c (u v)) n = T at h2 ⊢
      generalize beD I (fun v => dvI (u v) (u v)) n = E at h2 hD ⊢
      generalize dvI (u n) (u n) = W at h2 hU ⊢
      generalize dvI c (u n) = s at h2 ⊢
      generalize dvI c c = N at h2 ⊢
      have h3 : W * (W * T) ≤ W * ((W * N - s * s) * E) := by
        have e1 : W * (W * T) = W * W * T := by grind
        have e2 : W * ((W * N - s * s) * E) = W * (W * N - s * s) * E := by grind
        rw [e1, e2]; exact h2
      have h4 := Int.le_of_mul_le_mul_left h3 hU
      have e3 : (W * N - s * s) * E = N * (W * E) - s * s * E := by grind
      rw [e3] at h4
      omega
    · rw [if_neg q, if_neg q]; exact ih c
