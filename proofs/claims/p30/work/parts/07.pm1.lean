/-! ===== the reference's small methods (written by wip/whole/gen/model1.py) ===== -/
theorem inc_n (a n : Nat) : nI a + Int32.ofInt (n : Int) = nI (a + n) := by
  have h : Int32.ofInt (n : Int) = nI n := rfl
  rw [h, nI_add]
theorem bI_on {b : Bool} (h : b = true) : nI 1 = bI b := by rw [h]; rfl
theorem bI_off {b : Bool} (h : b = false) : nI 0 = bI b := by rw [h]; rfl
theorem lgc_eq (x y : Int64) : (lg_cmp x y = 0) = (x = y) := by
  unfold lg_cmp; by_cases h1 : y < x
  · rw [if_pos h1]; exact propext ⟨fun h => absurd h (by decide), fun h => by rw [h] at h1; exact absurd h1 Int64.lt_irrefl⟩
  · rw [if_neg h1]; by_cases h2 : x = y
    · rw [if_pos h2]; exact propext ⟨fun _ => h2, fun _ => rfl⟩
    · rw [if_neg h2]; exact propext ⟨fun h => absurd h (by decide), fun h => absurd h h2⟩
/-- the sum of f 0 .. f (k - 1) -/
def sI (f : Nat → Int32) : Nat → Int32
  | 0 => nI 0
  | k + 1 => sI f k + f k
def ntI (x : Int32) : Int32 := x ^^^ (-1)
def s1 (k : Nat) : Int32 := nI 1 <<< (nI k &&& 31)
def wit (v a b : Int32) : Bool := !decide (v < a) && !decide (b < v)
def bt (x : Int32) (k : Nat) : Bool := decide ((x >>> (nI k &&& 31)) &&& nI 1 = nI 1)
def on8 (x : Int32) : Int32 := sI (fun k => (x >>> (nI k &&& 31)) &&& nI 1) 8
def dotz (z : Nat → Int32) (a b : Nat) : Int32 := sI (fun p => z (a + p) * z (b + p)) 4
def edz (z : Nat → Int32) (n : Nat) : Int32 := sI (fun v => on8 (z (10 + v))) n / nI 2
