/-! ===== the reference's colors (written by wip/whole/gen/model9.py) ===== -/
def csB (z c : Nat → Int32) (v : Nat) : Nat → Bool
  | 0 => true
  | k + 1 => csB z c v k && (!bt (z (10 + v)) k || !decide (c k = c v))
def okS (z c : Nat → Int32) (v a : Nat) : Nat → Bool
  | 0 => true
  | k + 1 => okS z c v a k && (!bt (z (10 + v)) k || !decide (c k = nI a))
theorem csB_ok {z c p : Nat → Int32} {v a : Nat} (hp : ∀ j, j < v → c j = p j) : ∀ {k : Nat}, k ≤ v → csB z (upd c v (nI a)) v k = okS z p v a k
  | 0, _ => rfl
  | k + 1, h => by
    unfold csB okS
    rw [csB_ok hp (by omega), upd_n _ _ (by omega : k ≠ v), upd_e, hp k (by omega)]
/-- the first a, a + 1, .. (r of them) of which g gives something -/
def fsm {α : Type} (g : Nat → Option α) : Nat → Nat → Option α
  | 0, _ => none
  | r + 1, a => match g a with
    | some x => some x
    | none => fsm g r (a + 1)
/-- the first coloring with K colors that goes on from the first v ones -/
def tryC (z : Nat → Int32) (K : Nat) : Nat → Nat → (Nat → Int32) → Option (Nat → Int32)
  | 0, _, c => some c
  | m + 1, v, c => fsm (fun a => if okS z c v a v = true then tryC z K m (v + 1) (upd c v (nI a)) else none) K 0
def cl0 : Nat → Int32 := fun _ => 0
def cfC (z : Nat → Int32) (n k : Nat) : Option (Nat → Int32) := tryC z (k + 1) n 0 cl0
def cnK (z : Nat → Int32) (n : Nat) : Nat := fi (fun k => (cfC z n k).isSome) n + 1
def crs (z : Nat → Int32) (n : Nat) : Nat → Int32 := (cfC z n (fi (fun k => (cfC z n k).isSome) n)).getD cl0
theorem fsm_s {α : Type} {g : Nat → Option α} {r a : Nat} {x : α} (h : g a = some x) : fsm g (r + 1) a = some x := by
  unfold fsm; rw [h]
theorem fsm_n {α : Type} {g : Nat → Option α} {r a : Nat} (h : g a = none) : fsm g (r + 1) a = fsm g r (a + 1) := by
  show (match g a with | some x => some x | none => fsm g r (a + 1)) = _
  rw [h]
theorem fi_yes {p : Nat → Bool} : ∀ {n : Nat}, fi p n < n → p (fi p n) = true
  | 0, h => absurd h (Nat.not_lt_zero _)
  | n + 1, h => by
    have hl := fi_le p n
    unfold fi at h ⊢
    by_cases q : fi p n < n
    · rw [if_pos q]; exact fi_yes q
    · rw [if_neg q] at h ⊢
      have e : fi p n = n := by omega
      by_cases w : p n = true
      · rw [if_pos w]; exact w
      · rw [if_neg w] at h; omega
theorem upd_v {c p : Nat → Int32} {v : Nat} {x : Int32} (hp : ∀ j, j < v → c j = p j) : ∀ j, j < v + 1 → upd c v x j = upd p v x j := fun j hj => by
  by_cases q : j = v
  · subst q; rw [upd_e, upd_e]
  · rw [upd_n _ _ q, upd_n _ _ q]; exact hp j (by omega)
theorem nm1_ne {n : Nat} (h : n ≤ 8) : ¬ nI 0 - nI 1 = nI n := by
  have : ∀ n : Fin 9, ¬ nI 0 - nI 1 = nI n.val := by decide +kernel
  exact this ⟨n, by omega⟩
theorem nIm1 (v : Nat) : nI v + Int32.ofInt (-1) = nI v - nI 1 := by
  have e : Int32.ofInt (-1) = -nI 1 := by decide
  rw [e, Int32.sub_eq_add_neg]
