/-! ===== labels by colors, the hash (written by wip/whole/gen/model11.py) ===== -/
/-- the labels made of the coloring, the first t numbers of them -/
def lcT (z c : Nat → Int32) (t : Nat) : Nat → Int32 := fun j => if 18 ≤ j ∧ j < 18 + t then (if nI ((j - 18) % 4) = c ((j - 18) / 4) then nI 1 else nI 0) else z j
theorem lcT_0 (z c : Nat → Int32) : lcT z c 0 = z := by funext j; unfold lcT; rw [if_neg (by omega)]
theorem lcT_s {z c : Nat → Int32} {v p : Nat} (hp : p < 4) : upd (lcT z c (4 * v + p)) (18 + 4 * v + p) (if nI p = c v then nI 1 else nI 0) = lcT z c (4 * v + (p + 1)) := by
  funext j
  by_cases e : j = 18 + 4 * v + p
  · subst e
    rw [upd_e]
    show _ = (if _ then _ else _)
    rw [if_pos (show 18 ≤ 18 + 4 * v + p ∧ 18 + 4 * v + p < 18 + (4 * v + (p + 1)) by omega)]
    have e1 : (18 + 4 * v + p - 18) % 4 = p := by omega
    have e2 : (18 + 4 * v + p - 18) / 4 = v := by omega
    rw [e1, e2]
  · rw [upd_n _ _ e]; unfold lcT
    by_cases q : 18 ≤ j ∧ j < 18 + (4 * v + p)
    · rw [if_pos q, if_pos (show 18 ≤ j ∧ j < 18 + (4 * v + (p + 1)) by omega)]
    · rw [if_neg q, if_neg (show ¬ (18 ≤ j ∧ j < 18 + (4 * v + (p + 1))) by omega)]
def lcH (cn p : Nat) : Int32 := if p < cn then nI 1 else nI 0
/-- only scratch and the hash differ -/
def SD (M M2 : Mm) : Prop := (∀ i, i ≠ 135 → i ≠ 141 → i ≠ 142 → i ≠ 143 → i ≠ 144 → M2.1 i = M.1 i) ∧ (∀ k, k ≠ 10 → M2.1 135 k = M.1 135 k) ∧ (∀ i, i ≠ 135 → M2.2 i = M.2 i)
theorem SC.sd {M M2 : Mm} (h : SC M M2) : SD M M2 := ⟨h.1, h.2.1, h.2.2.1⟩
theorem SD.tr {A B C : Mm} (h : SD A B) (g : SD B C) : SD A C := ⟨fun i a b c d e => (g.1 i a b c d e).trans (h.1 i a b c d e), fun k q => (g.2.1 k q).trans (h.2.1 k q), fun i q => (g.2.2 i q).trans (h.2.2 i q)⟩
theorem SD.r {M M2 : Mm} (h : SD M M2) (i : Nat) (hi : i ≠ 135 ∧ i ≠ 141 ∧ i ≠ 142 ∧ i ≠ 143 ∧ i ≠ 144) : M2.1 i = M.1 i := h.1 i hi.1 hi.2.1 hi.2.2.1 hi.2.2.2.1 hi.2.2.2.2
theorem SD.c {M M2 : Mm} (h : SD M M2) (i j : Nat) (hi : i ≠ 135 ∧ i ≠ 141 ∧ i ≠ 142 ∧ i ≠ 143 ∧ i ≠ 144) : M2.1 i j = M.1 i j := congrFun (h.r i hi) j
theorem SD.hash (M : Mm) (v : Int64) : SD M (mJ M 135 17 v) := ⟨fun _ _ _ _ _ _ => rfl, fun _ _ => rfl, fun i hi => mJ_ne _ hi⟩
/-- a hash that goes on over v 0 .. v (k - 1), those with c alone -/
def hsC (c : Nat → Bool) (v : Nat → Int64) (h : Int64) : Nat → Int64
  | 0 => h
  | k + 1 => if c k = true then 31 * hsC c v h k + v k else hsC c v h k
/-- the hash goes on by x, over scratch -/
def hI9 (M M9 : Mm) (h : Int64) : Prop := SD M M9 ∧ M9.2 135 17 = h
theorem hI9.mix {M M9 M8 : Mm} {h : Int64} (a : hI9 M M9 h) (b : SC M9 M8) (x : Int64) : hI9 M (mJ M8 135 17 (31 * M8.2 135 17 + x)) (31 * h + x) := by
  refine ⟨a.1.tr (b.sd.tr (SD.hash _ _)), ?_⟩
  rw [mJ_eq]
  show 31 * M8.2 135 17 + x = _
  rw [b.2.2.2, a.2]
def cV (w : Nat) : Bool := decide (w < 6) || decide (9 < w)
def cB (w : Nat) : Bool := decide (w < 2) || decide (9 < w)
def cT (_ : Nat) : Bool := true
def mvz (z : Nat → Int32) (n v : Nat) (h : Int64) : Int64 := hsC cT (fun o => if bt (z (10 + v)) o = true then 1 else 0) (hsC cV (fun w => (vnz z n v w).toInt64) h 14) n
def mvs (z : Nat → Int32) (n : Nat) (h : Int64) : Nat → Int64
  | 0 => h
  | v + 1 => mvz z n v (mvs z n h v)
