/-! ===== the reference's looks (written by wip/whole/gen/model2.py) ===== -/
/-- the first k below N with p, N if there is none -/
def fi (p : Nat → Bool) : Nat → Nat
  | 0 => 0
  | n + 1 => if fi p n < n then fi p n else if p n then n else n + 1
theorem fi_le (p : Nat → Bool) : ∀ n, fi p n ≤ n
  | 0 => Nat.le_refl 0
  | n + 1 => by
    have h := fi_le p n
    unfold fi
    split
    · omega
    · split <;> omega
theorem fi_none {p : Nat → Bool} : ∀ {n : Nat}, (∀ j, j < n → p j = false) → fi p n = n
  | 0, _ => rfl
  | n + 1, h => by
    have h1 := fi_none (n := n) (fun j hj => h j (by omega))
    unfold fi
    rw [h1, if_neg (Nat.lt_irrefl _), h n (by omega)]
    rfl
theorem fi_at {p : Nat → Bool} : ∀ {n k : Nat}, k < n → p k = true → (∀ j, j < k → p j = false) → fi p n = k
  | 0, k, h, _, _ => absurd h (Nat.not_lt_zero k)
  | n + 1, k, h, hp, h0 => by
    unfold fi
    rcases Nat.lt_or_ge k n with q | q
    · rw [fi_at q hp h0, if_pos q]
    · have e : k = n := by omega
      subst e
      rw [fi_none h0, if_neg (Nat.lt_irrefl _), hp]
      rfl
def fiR (p : Nat → Bool) (N : Nat) : Int32 := if fi p N < N then nI (fi p N) else -1
theorem fiR_at {p : Nat → Bool} {N k : Nat} (h : k < N) (hp : p k = true) (h0 : ∀ j, j < k → p j = false) : nI k = fiR p N := by
  unfold fiR
  rw [fi_at h hp h0, if_pos h]
theorem fiR_no {p : Nat → Bool} {N : Nat} (h0 : ∀ j, j < N → p j = false) : -1 = fiR p N := by
  unfold fiR
  rw [fi_none h0, if_neg (Nat.lt_irrefl _)]
def mfp (z : Nat → Int32) (k : Nat) : Bool := !decide (k % 8 ≤ k / 8) && bt (z (10 + k / 8)) (k % 8) && !decide (dotz z (18 + 4 * (k / 8)) (18 + 4 * (k % 8)) = 0)
def upr (z : Nat → Int32) (v : Nat) : Bool := !decide (z (2 + v) ≤ 0) && decide (dotz z 50 (18 + 4 * v) = 0)
def mfR (z : Nat → Int32) (n : Nat) : Int32 := fiR (mfp z) (8 * n)
def upR (z : Nat → Int32) (n : Nat) : Int32 := fiR (upr z) n
def rsz (z : Nat → Int32) (n : Nat) : Int32 := if mfR z n = -1 then (if upR z n = -1 then nI 0 else nI 2) else nI 1
def icl (z : Nat → Int32) (x : Int32) : Nat → Bool
  | 0 => true
  | v + 1 => icl z x v && (!bt x v || decide ((x &&& ntI (z (10 + v))) &&& ntI (s1 v) = 0))
def wz (z : Nat → Int32) (n : Nat) (x : Int32) : Int32 := sI (fun v => if bt x v = true then z (2 + v) else nI 0) n
def hvc (z : Nat → Int32) (n : Nat) (w : Int32) (s : Nat) : Bool := decide (w &&& ntI (nI s) = 0) && icl z (nI s) n
def hvS (z : Nat → Int32) (n : Nat) (w : Int32) : Nat → Int32
  | 0 => -1
  | s + 1 => if hvc z n w s = true ∧ (hvS z n w s = -1 ∨ ¬ wz z n (nI s) ≤ wz z n (hvS z n w s)) then nI s else hvS z n w s
def hvz (z : Nat → Int32) (n : Nat) (w : Int32) : Int32 := hvS z n w (2 ^ n)
def mvS (z : Nat → Int32) (n : Nat) : Nat → Int32
  | 0 => nI 0
  | s + 1 => if ¬ on8 (nI s) ≤ mvS z n s ∧ icl z (nI s) n = true then on8 (nI s) else mvS z n s
theorem shl1 {n : Nat} (h : n < 31) : s1 n = nI (2 ^ n) := by
  have : ∀ n : Fin 31, s1 n.val = nI (2 ^ n.val) := by decide +kernel
  exact this ⟨n, h⟩
theorem p2_le {n : Nat} (h : n ≤ 8) : 2 ^ n ≤ 256 := Nat.pow_le_pow_right (by decide) h
