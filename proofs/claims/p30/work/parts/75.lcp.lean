/-! ===== pure: colorings as the law finds them (by hand) ===== -/
/-- an edge of the graph with the code g: the pairs (0,1), (0,2), (1,2), (0,3), (1,3), (2,3) are its bits -/
def geB (g a b : Nat) : Bool := if a < b then g.testBit (b * (b - 1) / 2 + a) else if b < a then g.testBit (a * (a - 1) / 2 + b) else false
/-- the masks of the graph with the code g -/
def zgR (g : Nat) (j : Nat) : Int32 := if j < 10 then 0 else nI ((if geB g (j - 10) 0 then 1 else 0) + (if geB g (j - 10) 1 then 2 else 0) + (if geB g (j - 10) 2 then 4 else 0) + (if geB g (j - 10) 3 then 8 else 0))
/-- how v stands to those before w, by the colors of the code c -/
def kwB (e : Nat → Nat → Bool) (c v : Nat) : Nat → Bool
  | 0 => true
  | w + 1 => kwB e c v w && !(e v w && decide (cda c v = cda c w))
def kvB (e : Nat → Nat → Bool) (c : Nat) : Nat → Bool
  | 0 => true
  | v + 1 => kvB e c v && kwB e c v v
/-- how many colors the first n have -/
def mnN (c n : Nat) : Nat := (if 0 < n ∧ cda c 0 = 0 ∨ 1 < n ∧ cda c 1 = 0 ∨ 2 < n ∧ cda c 2 = 0 ∨ 3 < n ∧ cda c 3 = 0 then 1 else 0) + (if 0 < n ∧ cda c 0 = 1 ∨ 1 < n ∧ cda c 1 = 1 ∨ 2 < n ∧ cda c 2 = 1 ∨ 3 < n ∧ cda c 3 = 1 then 1 else 0) + (if 0 < n ∧ cda c 0 = 2 ∨ 1 < n ∧ cda c 1 = 2 ∨ 2 < n ∧ cda c 2 = 2 ∨ 3 < n ∧ cda c 3 = 2 then 1 else 0) + (if 0 < n ∧ cda c 0 = 3 ∨ 1 < n ∧ cda c 1 = 3 ∨ 2 < n ∧ cda c 2 = 3 ∨ 3 < n ∧ cda c 3 = 3 then 1 else 0)
/-- the code of a coloring of n -/
def bcN (x : Nat → Int32) (n : Nat) : Nat := (x 0).toNatClampNeg * 64 + (if 1 < n then (x 1).toNatClampNeg * 16 else 0) + (if 2 < n then (x 2).toNatClampNeg * 4 else 0) + (if 3 < n then (x 3).toNatClampNeg else 0)
set_option maxRecDepth 100000 in
set_option maxHeartbeats 4000000 in
theorem col_a : ∀ n : Fin 5, 1 ≤ n.val → ∀ g : Fin 64, bcN (crs (zgR g.val) n.val) n.val < 256 ∧ kvB (geB g.val) (bcN (crs (zgR g.val) n.val) n.val) n.val = true ∧ mnN (bcN (crs (zgR g.val) n.val) n.val) n.val = cnK (zgR g.val) n.val ∧ cnK (zgR g.val) n.val < 5 ∧ ∀ v : Fin 4, v.val < n.val → crs (zgR g.val) n.val v.val = nI (cda (bcN (crs (zgR g.val) n.val) n.val) v.val) := by decide +kernel
set_option maxRecDepth 100000 in
set_option maxHeartbeats 4000000 in
theorem col_b : ∀ n : Fin 5, 1 ≤ n.val → ∀ g : Fin 64, ∀ c : Fin 256, kvB (geB g.val) c.val n.val = true → cnK (zgR g.val) n.val ≤ mnN c.val n.val ∧ (c.val < bcN (crs (zgR g.val) n.val) n.val → cnK (zgR g.val) n.val < mnN c.val n.val) := by decide +kernel
