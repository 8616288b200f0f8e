/-! ===== the class: the search for a handle (written by wip/whole/gen/cls11.py) ===== -/
section CV4
variable {l : Launch} {D : va_G} {cs : Nat → ClassId} {ad : Nat → Nat} {nL : Nat} {κ : Kx} {u : Nat} {M : Mm} {pc : Nat} {lv : List (Nat × Value)} {st : List Value} {cc : ByteArray} {own : String} {fr lo U : Nat}
theorem r_ineg (C : CX D cs ad cc nL own fr lo U κ) {x : Int32} (d : decode cc pc = .ok (.ineg, 1)) (k : VV l D cs ad nL κ u M (pc + 1) lv (.int (-x) :: st)) : VV l D cs ad nL κ u M pc lv (.int x :: st) := by
  obtain ⟨p, e, R, s, m, args, below, meth, c, c0, s0, Q⟩ := κ
  obtain ⟨hx, hb, hml, hown, hts, hK, hD, hfr, hlo, hc0, hs0⟩ := C
  intro H locs ls hP hS hl
  exact lv_ineg hx hb d (k H locs ls hP hS hl)
end CV4
theorem ng0 (x : Int32) : -x = nI 0 - x := (Int32.zero_sub x).symm
/-- the digit of a code -/
def dg (k b t : Nat) : Nat := cD k b t % b
theorem dg_B {k b t s : Nat} (hb : b = 3 ∨ b = 5) (hk : k < 625) (ht : t < 4) (hs : s < 4) (h1 : k % b ^ t = b ^ t - 1) (h2 : dg k b t < b - 1) : dg (k + 1) b s = if s < t then 0 else if s = t then dg k b t + 1 else dg k b s := by
  rcases hb with rfl | rfl
  · have h : ∀ k : Fin 625, ∀ t : Fin 4, ∀ s : Fin 4, k.val % 3 ^ t.val = 3 ^ t.val - 1 → dg k.val 3 t.val < 3 - 1 → dg (k.val + 1) 3 s.val = if s.val < t.val then 0 else if s.val = t.val then dg k.val 3 t.val + 1 else dg k.val 3 s.val := by decide +kernel
    exact h ⟨k, hk⟩ ⟨t, ht⟩ ⟨s, hs⟩ h1 h2
  · have h : ∀ k : Fin 625, ∀ t : Fin 4, ∀ s : Fin 4, k.val % 5 ^ t.val = 5 ^ t.val - 1 → dg k.val 5 t.val < 5 - 1 → dg (k.val + 1) 5 s.val = if s.val < t.val then 0 else if s.val = t.val then dg k.val 5 t.val + 1 else dg k.val 5 s.val := by decide +kernel
    exact h ⟨k, hk⟩ ⟨t, ht⟩ ⟨s, hs⟩ h1 h2
theorem dg_A {k b t : Nat} (hb : b = 3 ∨ b = 5) (hk : k < 625) (ht : t < 4) (h1 : k % b ^ t = b ^ t - 1) (h2 : dg k b t = b - 1) : k % b ^ (t + 1) = b ^ (t + 1) - 1 := by
  rcases hb with rfl | rfl
  · have h : ∀ k : Fin 625, ∀ t : Fin 4, k.val % 3 ^ t.val = 3 ^ t.val - 1 → dg k.val 3 t.val = 3 - 1 → k.val % 3 ^ (t.val + 1) = 3 ^ (t.val + 1) - 1 := by decide +kernel
    exact h ⟨k, hk⟩ ⟨t, ht⟩ h1 h2
  · have h : ∀ k : Fin 625, ∀ t : Fin 4, k.val % 5 ^ t.val = 5 ^ t.val - 1 → dg k.val 5 t.val = 5 - 1 → k.val % 5 ^ (t.val + 1) = 5 ^ (t.val + 1) - 1 := by decide +kernel
    exact h ⟨k, hk⟩ ⟨t, ht⟩ h1 h2
theorem dg_C {k b d s : Nat} (hb : b = 3 ∨ b = 5) (hk : k < 625) (hd : d ≤ 4) (hs : s < d) (h1 : k % b ^ d = b ^ d - 1) : dg (k + 1) b s = 0 := by
  rcases hb with rfl | rfl
  · have h : ∀ k : Fin 625, ∀ d : Fin 5, ∀ s : Fin 4, s.val < d.val → k.val % 3 ^ d.val = 3 ^ d.val - 1 → dg (k.val + 1) 3 s.val = 0 := by decide +kernel
    exact h ⟨k, hk⟩ ⟨d, by omega⟩ ⟨s, by omega⟩ hs h1
  · have h : ∀ k : Fin 625, ∀ d : Fin 5, ∀ s : Fin 4, s.val < d.val → k.val % 5 ^ d.val = 5 ^ d.val - 1 → dg (k.val + 1) 5 s.val = 0 := by decide +kernel
    exact h ⟨k, hk⟩ ⟨d, by omega⟩ ⟨s, by omega⟩ hs h1
theorem dg_ge {size x : Nat} (hs : size ≤ 2) (hx : x ≤ 2 * size) : nI size ≤ nI x - nI size ↔ x = 2 * size := by
  have h : ∀ s : Fin 3, ∀ x : Fin 5, x.val ≤ 2 * s.val → (nI s.val ≤ nI x.val - nI s.val ↔ x.val = 2 * s.val) := by decide +kernel
  exact h ⟨size, by omega⟩ ⟨x, by omega⟩ hx
/-- the trial row of a code -/
def trI (d k b size p : Nat) : Int32 := if p < d then nI (dg k b (d - 1 - p)) - nI size else nI 0
theorem tr_hn {z : Nat → Int32} {d k b size p : Nat} (hz : ∀ p, d ≤ p → p < 4 → z (50 + p) = nI 0) (hp : p < 4) : trI d k b size p = hnR z d k b size d (50 + p) := by
  unfold trI hnR hnD dg
  by_cases q : p < d
  · rw [if_pos q, if_pos (by omega), show 50 + p - 50 = p by omega]
  · rw [if_neg q, if_neg (by omega), hz p (by omega) hp]
theorem tr_0 {d b size p : Nat} (hb : b = 3 ∨ b = 5) : trI d 0 b size p = if p < d then nI 0 - nI size else nI 0 := by
  unfold trI dg cD
  by_cases q : p < d
  · rw [if_pos q, if_pos q, Nat.zero_div, Nat.zero_mod]
  · rw [if_neg q, if_neg q]
def goI (d k b size t : Nat) (M M3 : Mm) : Prop := o1 133 M M3 ∧ (∀ p, p < 4 → M3.1 133 p = if p < d ∧ d - t ≤ p then nI 0 - nI size else trI d k b size p) ∧ k % b ^ t = b ^ t - 1
theorem go_at {d k b size t : Nat} {M M3 : Mm} (h : goI d k b size t M M3) (ht : t < d) (hd : d ≤ 4) : M3.1 133 (d - t - 1) = nI (dg k b t) - nI size := by
  rw [h.2.1 _ (by omega), if_neg (by omega)]
  unfold trI
  rw [if_pos (by omega), show d - 1 - (d - t - 1) = t by omega]
theorem go_s {d k b size t : Nat} {M M3 : Mm} (h : goI d k b size t M M3) (ht : t < d) (hd : d ≤ 4) (hb : b = 3 ∨ b = 5) (hk : k < 625) (h2 : dg k b t = b - 1) : goI d k b size (t + 1) M (mI M3 133 (d - t - 1) (nI 0 - nI size)) := by
  refine ⟨h.1.I, fun p hp => ?_, dg_A hb hk (by omega) h.2.2 h2⟩
  rw [mI_eq]; unfold upd
  by_cases e : p = d - t - 1
  · rw [if_pos e, if_pos (by omega)]
  · rw [if_neg e, h.2.1 p hp]
    by_cases q : p < d ∧ d - t ≤ p
    · rw [if_pos q, if_pos (by omega)]
    · rw [if_neg q, if_neg (by omega)]
def goP (d k b size : Nat) (M M2 : Mm) : Prop := o1 133 M M2 ∧ ∀ p, p < 4 → M2.1 133 p = trI d (k + 1) b size p
theorem go_e1 {d k b size t : Nat} {M M3 : Mm} {x : Int32} (h : goI d k b size t M M3) (ht : t < d) (hd : d ≤ 4) (hb : b = 3 ∨ b = 5) (hk : k < 625) (h2 : dg k b t < b - 1) (hx : x = nI (dg k b t + 1) - nI size) : goP d k b size M (mI M3 133 (d - t - 1) x) := by
  subst hx
  refine ⟨h.1.I, fun p hp => ?_⟩
  rw [mI_eq]; unfold upd trI
  by_cases q : p < d
  · rw [if_pos q, dg_B hb hk (by omega) (show d - 1 - p < 4 by omega) h.2.2 h2]
    by_cases e : p = d - t - 1
    · rw [if_pos e, if_neg (by omega), if_pos (by omega)]
    · rw [if_neg e, h.2.1 p hp]
      by_cases w : d - t ≤ p
      · rw [if_pos ⟨q, w⟩, if_pos (by omega)]
      · rw [if_neg (fun x => w x.2), if_neg (by omega), if_neg (by omega)]; unfold trI; rw [if_pos q]
  · rw [if_neg (by omega), if_neg q, h.2.1 p hp, if_neg (by omega)]; unfold trI; rw [if_neg q]
theorem go_e2 {d k b size : Nat} {M M3 : Mm} (h : goI d k b size d M M3) (hd : d ≤ 4) (hb : b = 3 ∨ b = 5) (hk : k < 625) : goP d k b size M M3 := by
  refine ⟨h.1, fun p hp => ?_⟩
  rw [h.2.1 p hp]; unfold trI
  by_cases q : p < d
  · rw [if_pos ⟨q, by omega⟩, if_pos q, dg_C hb hk hd (show d - 1 - p < d by omega) h.2.2]
  · rw [if_neg (fun w => q w.1), if_neg q, if_neg q]
def beI (d b size t : Nat) (M M3 : Mm) : Prop := o1 133 M M3 ∧ ∀ p, p < t → M3.1 133 p = trI d 0 b size p
theorem be_s {d b size t : Nat} {M M3 : Mm} {x : Int32} (h : beI d b size t M M3) (hb : b = 3 ∨ b = 5) (hx : x = if t < d then nI 0 - nI size else nI 0) : beI d b size (t + 1) M (mI M3 133 t x) := by
  subst hx
  refine ⟨h.1.I, fun p hp => ?_⟩
  rw [mI_eq]; unfold upd
  by_cases e : p = t
  · rw [if_pos e, e, tr_0 hb]
  · rw [if_neg e]; exact h.2 p (by omega)
theorem dg_1 (a b : Nat) : nI a - nI b + nI 1 = nI (a + 1) - nI b := by
  rw [← nI_add, Int32.sub_eq_add_neg, Int32.sub_eq_add_neg, Int32.add_assoc, Int32.add_assoc, Int32.add_comm (-nI b)]
