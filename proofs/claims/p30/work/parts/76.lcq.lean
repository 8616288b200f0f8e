/-! ===== pure: colorings, any graph of at most four vertices (by hand) ===== -/
def gcB (b0 b1 b2 b3 b4 b5 : Bool) : Nat := (if b0 = true then 1 else 0) + (if b1 = true then 2 else 0) + (if b2 = true then 4 else 0) + (if b3 = true then 8 else 0) + (if b4 = true then 16 else 0) + (if b5 = true then 32 else 0)
theorem gc_lt (b0 b1 b2 b3 b4 b5 : Bool) : gcB b0 b1 b2 b3 b4 b5 < 64 := by revert b0 b1 b2 b3 b4 b5; decide +kernel
theorem gc_t : ∀ b0 b1 b2 b3 b4 b5 : Bool, ∀ a b : Fin 4, geB (gcB b0 b1 b2 b3 b4 b5) a.val b.val = (if a.val = b.val then false else if min a.val b.val = 0 ∧ max a.val b.val = 1 then b0 else if min a.val b.val = 0 ∧ max a.val b.val = 2 then b1 else if min a.val b.val = 1 ∧ max a.val b.val = 2 then b2 else if min a.val b.val = 0 ∧ max a.val b.val = 3 then b3 else if min a.val b.val = 1 ∧ max a.val b.val = 3 then b4 else b5) := by decide +kernel
theorem ge_ex {e : Nat → Nat → Bool} {n : Nat} (hn : n ≤ 4) (hs : ∀ a b, a < n → b < n → e a b = e b a) (hi : ∀ a, a < n → e a a = false) : ∃ g, g < 64 ∧ ∀ a b, a < n → b < n → e a b = geB g a b := by
  refine ⟨gcB (e 0 1) (e 0 2) (e 1 2) (e 0 3) (e 1 3) (e 2 3), gc_lt _ _ _ _ _ _, fun a b ha hb => ?_⟩
  have h := gc_t (e 0 1) (e 0 2) (e 1 2) (e 0 3) (e 1 3) (e 2 3) ⟨a, by omega⟩ ⟨b, by omega⟩
  refine Eq.trans ?_ h.symm
  rcases (show a = 0 ∨ a = 1 ∨ a = 2 ∨ a = 3 by omega) with rfl | rfl | rfl | rfl <;> rcases (show b = 0 ∨ b = 1 ∨ b = 2 ∨ b = 3 by omega) with rfl | rfl | rfl | rfl
  all_goals first
    | exact hi _ ha
    | rfl
    | exact hs _ _ ha hb
theorem okz_cg {z y c : Nat → Int32} {v a : Nat} : ∀ {k : Nat}, (∀ j, j < k → bt (z (10 + v)) j = bt (y (10 + v)) j) → okS z c v a k = okS y c v a k
  | 0, _ => rfl
  | k + 1, h => by
    unfold okS
    rw [okz_cg (k := k) (fun j hj => h j (by omega)), h k (by omega)]
theorem trz_cg {z y : Nat → Int32} {n K : Nat} (h : ∀ v k, v < n → k < v → bt (z (10 + v)) k = bt (y (10 + v)) k) : ∀ {m v : Nat} {c : Nat → Int32}, v + m ≤ n → tryC z K m v c = tryC y K m v c
  | 0, _, _, _ => rfl
  | m + 1, v, c, hv => by
    unfold tryC
    refine fsm_cg (fun a _ _ => ?_)
    rw [okz_cg (fun j hj => h v j (by omega) hj), trz_cg h (m := m) (v := v + 1) (by omega)]
theorem crz_cg {z y : Nat → Int32} {n : Nat} (h : ∀ v k, v < n → k < v → bt (z (10 + v)) k = bt (y (10 + v)) k) : crs z n = crs y n ∧ cnK z n = cnK y n := by
  have e : ∀ k, cfC z n k = cfC y n k := fun k => trz_cg h (by omega)
  have e2 : (fun k => (cfC z n k).isSome) = (fun k => (cfC y n k).isSome) := funext fun k => by rw [e k]
  unfold crs cnK
  rw [e2, e _]
  exact ⟨rfl, rfl⟩
theorem zg_bt : ∀ g : Fin 64, ∀ v k : Fin 4, bt (zgR g.val (10 + v.val)) k.val = geB g.val v.val k.val := by decide +kernel
theorem kw_cg {e f : Nat → Nat → Bool} {c v : Nat} : ∀ {w : Nat}, (∀ j, j < w → e v j = f v j) → kwB e c v w = kwB f c v w
  | 0, _ => rfl
  | w + 1, h => by
    unfold kwB
    rw [kw_cg (w := w) (fun j hj => h j (by omega)), h w (by omega)]
theorem kv_cg {e f : Nat → Nat → Bool} {c : Nat} : ∀ {v : Nat}, (∀ i j, i < v → j < i → e i j = f i j) → kvB e c v = kvB f c v
  | 0, _ => rfl
  | v + 1, h => by
    unfold kvB
    rw [kv_cg (v := v) (fun i j hi hj => h i j (by omega) hj), kw_cg (fun j hj => h v j (by omega) hj)]
/-- the code of the coloring is the first of those with the fewest colors -/
theorem col_all {z : Nat → Int32} {n d : Nat} {e : Nat → Nat → Bool} (hq : gq z n d e) (hn : n ≤ 4) (hi : ∀ a, a < n → e a a = false) : ∃ b, b < 256 ∧ kvB e b n = true ∧ mnN b n = cnK z n ∧ cnK z n < 5 ∧ (∀ v, v < n → crs z n v = nI (cda b v)) ∧ ∀ c, c < 256 → kvB e c n = true → cnK z n ≤ mnN c n ∧ (c < b → cnK z n < mnN c n) := by
  obtain ⟨-, -, hn1, -, he, hs, -⟩ := hq
  obtain ⟨g, hg, hE⟩ := ge_ex hn hs hi
  have hz : ∀ v k, v < n → k < v → bt (z (10 + v)) k = bt (zgR g (10 + v)) k := fun v k hv hk => by
    rw [eb_bt hn1.2 he hv (by omega), hE v k hv (by omega)]
    exact (zg_bt ⟨g, hg⟩ ⟨v, by omega⟩ ⟨k, by omega⟩).symm
  obtain ⟨e1, e2⟩ := crz_cg hz
  have hk : ∀ c, kvB e c n = kvB (geB g) c n := fun c => kv_cg (fun i j h1 h2 => hE i j h1 (by omega))
  obtain ⟨a1, a2, a3, a4, a5⟩ := col_a ⟨n, by omega⟩ hn1.1 ⟨g, hg⟩
  rw [e1, e2]
  refine ⟨_, a1, (hk _).trans a2, a3, a4, fun v hv => a5 ⟨v, by omega⟩ hv, fun c hc h => ?_⟩
  rw [hk c] at h
  exact col_b ⟨n, by omega⟩ hn1.1 ⟨g, hg⟩ ⟨c, hc⟩ h
/-- the fewest colors so far, and the code's number and 1 -/
def lbC (e : Nat → Nat → Bool) (n : Nat) : Nat → Nat × Nat
  | 0 => (5, 0)
  | c + 1 => if kvB e c n = true ∧ mnN c n < (lbC e n c).1 then (mnN c n, c + 1) else lbC e n c
theorem lb_y {e : Nat → Nat → Bool} {n c : Nat} (h : kvB e c n = true) (h2 : mnN c n < (lbC e n c).1) : lbC e n (c + 1) = (mnN c n, c + 1) := if_pos ⟨h, h2⟩
theorem lb_n {e : Nat → Nat → Bool} {n c : Nat} (h : kvB e c n = false ∨ ¬ mnN c n < (lbC e n c).1) : lbC e n (c + 1) = lbC e n c := if_neg (fun q => h.elim (fun g => by rw [g] at q; exact absurd q.1 (by decide)) (fun g => g q.2))
theorem lb_e {e : Nat → Nat → Bool} {n b L : Nat} (hb : b < 256) (h1 : kvB e b n = true) (h2 : mnN b n = L) (hL : L < 5) (h3 : ∀ c, c < 256 → kvB e c n = true → L ≤ mnN c n ∧ (c < b → L < mnN c n)) : ∀ {k : Nat}, k ≤ 256 → (k ≤ b → L < (lbC e n k).1) ∧ (b < k → lbC e n k = (L, b + 1))
  | 0, _ => ⟨fun _ => hL, fun h => absurd h (Nat.not_lt_zero b)⟩
  | k + 1, hk => by
    obtain ⟨i1, i2⟩ := lb_e hb h1 h2 hL h3 (k := k) (by omega)
    by_cases q : kvB e k n = true ∧ mnN k n < (lbC e n k).1
    · rw [lb_y q.1 q.2]
      obtain ⟨g1, g2⟩ := h3 k (by omega) q.1
      refine ⟨fun h => g2 (by omega), fun h => ?_⟩
      by_cases e9 : k = b
      · subst e9; rw [h2]
      · rw [i2 (by omega)] at q
        exact absurd q.2 (Nat.not_lt.mpr g1)
    · have q2 : kvB e k n = false ∨ ¬ mnN k n < (lbC e n k).1 := by
        by_cases q1 : kvB e k n = true
        · exact Or.inr (fun t => q ⟨q1, t⟩)
        · exact Or.inl (by simpa using q1)
      rw [lb_n q2]
      refine ⟨fun h => i1 (by omega), fun h => ?_⟩
      by_cases e9 : k = b
      · subst e9
        exact absurd ⟨h1, by rw [h2]; exact i1 (Nat.le_refl k)⟩ q
      · exact i2 (by omega)
theorem lb_5 (e : Nat → Nat → Bool) (n : Nat) : ∀ k, (lbC e n k).1 ≤ 5
  | 0 => Nat.le_refl 5
  | k + 1 => by
    have := lb_5 e n k
    unfold lbC
    split
    · rename_i q
      have := q.2
      show mnN k n ≤ 5
      omega
    · exact this
theorem cda_lt (c v : Nat) : cda c v < 4 := Nat.mod_lt _ (by decide)
/-- the colors used, as bits -/
def usI (c : Nat) : Nat → Int32
  | 0 => nI 0
  | v + 1 => usI c v ||| s1 (cda c v)
theorem us_n {c n : Nat} (hc : c < 256) (hn : n ≤ 4) : sI (fun j => (usI c n >>> (nI j &&& 31)) &&& nI 1) 4 = nI (mnN c n) := by
  have h : ∀ n : Fin 5, ∀ c : Fin 256, sI (fun j => (usI c.val n.val >>> (nI j &&& 31)) &&& nI 1) 4 = nI (mnN c.val n.val) := by decide +kernel
  exact h ⟨n, by omega⟩ ⟨c, hc⟩
theorem mn_le (c n : Nat) : mnN c n ≤ 4 := by
  unfold mnN
  split <;> split <;> split <;> split <;> decide
theorem kw_n {e : Nat → Nat → Bool} {c v w : Nat} (h : e v w = false ∨ ¬ cda c v = cda c w) : kwB e c v (w + 1) = kwB e c v w := by
  show (kwB e c v w && !(e v w && decide (cda c v = cda c w))) = kwB e c v w
  rcases h with h | h
  · rw [h]; simp
  · rw [decide_eq_false h]; simp
theorem kw_y {e : Nat → Nat → Bool} {c v w : Nat} (h : e v w = true) (h2 : cda c v = cda c w) : kwB e c v (w + 1) = false := by
  show (kwB e c v w && !(e v w && decide (cda c v = cda c w))) = false
  rw [h, decide_eq_true h2]; simp
