/-! ===== pure: pairs, bounds, handles of class and reference (by hand) ===== -/
theorem fi_ne {p : Nat → Bool} {n j : Nat} (h : j < fi p n) : p j = false := by
  cases q : p j
  · rfl
  · have hl := fi_le p n
    have : fi p n ≤ j := by
      have h2 : ∀ n, j < n → fi p n ≤ j := fun n => by
        induction n with
        | zero => intro h; exact absurd h (Nat.not_lt_zero j)
        | succ n ih =>
          intro hj
          unfold fi
          by_cases e : j < n
          · rw [if_pos (Nat.lt_of_le_of_lt (ih e) e)]; exact ih e
          · have e2 : j = n := by omega
            subst e2
            rw [q, if_pos rfl]
            split <;> omega
      exact h2 n (by omega)
    omega
theorem fiR_lt {p : Nat → Bool} {n : Nat} (h : fi p n < n) : fiR p n = nI (fi p n) := if_pos h
theorem fiR_m1 {p : Nat → Bool} {n : Nat} (hn : n ≤ 100) : fiR p n = -1 ↔ ∀ j, j < n → p j = false := by
  unfold fiR
  constructor
  · intro h j hj
    by_cases q : fi p n < n
    · rw [if_pos q] at h; exact absurd h (m1_ne (by omega))
    · exact fi_ne (p := p) (n := n) (by have := fi_le p n; omega)
  · intro h; rw [fi_none h, if_neg (Nat.lt_irrefl _)]
theorem fiR_y {p : Nat → Bool} {n : Nat} (hn : n ≤ 100) (h : ¬ fiR p n = -1) : fi p n < n := by
  by_cases q : fi p n < n
  · exact q
  · exact absurd (show fiR p n = -1 from if_neg q) h
theorem mfp_uf {z : Nat → Int32} {a b : Nat} (hb : b < 8) : mfp z (8 * a + b) = (!decide (b ≤ a) && uf z a b) := by
  unfold mfp uf
  rw [show (8 * a + b) % 8 = b by omega, show (8 * a + b) / 8 = a by omega, Bool.and_assoc]
theorem mfp_hi {z : Nat → Int32} {n a b : Nat} {mk : Nat → Nat} (hn : n ≤ 8) (hk : gk z n mk) (ha : a < n) (hb : n ≤ b) (hb8 : b < 8) : uf z a b = false := by
  unfold uf
  rw [(hk a ha).2, bt_tb (n2_256 hn (hk a ha).1) hb8, tb_lt (hk a ha).1 hb]; rfl
/-- the first pair that does not fit, as the class finds it and as the reference does -/
theorem mf_fu {z : Nat → Int32} {n : Nat} {mk : Nat → Nat} (hn : n ≤ 8) (hk : gk z n mk) : (fuz z n = -1 ∧ mfR z n = -1) ∨ ∃ a b, a < n ∧ b < n ∧ fuz z n = nI a ∧ upz z n a = nI b ∧ mfR z n = nI (8 * a + b) := by
  by_cases hf : fuz z n = -1
  · refine Or.inl ⟨hf, ?_⟩
    have h1 := (fiR_m1 (by omega)).mp hf
    refine (fiR_m1 (n := 8 * n) (by omega)).mpr (fun k hk9 => ?_)
    have ha := h1 (k / 8) (by omega)
    have h2 : upz z n (k / 8) = -1 := by simpa using ha
    have h3 := (fiR_m1 (by omega)).mp h2
    rw [show k = 8 * (k / 8) + k % 8 by omega, mfp_uf (by omega)]
    by_cases q : k % 8 < n
    · exact h3 _ q
    · rw [mfp_hi hn hk (by omega) (by omega) (by omega), Bool.and_false]
  · refine Or.inr ?_
    have h0 := fiR_y (p := fun a => !decide (upz z n a = -1)) (n := n) (by omega) hf
    have h1 := fi_yes h0
    have hlo : ∀ j, j < fi (fun a => !decide (upz z n a = -1)) n → (!decide (upz z n j = -1)) = false := fun j hj => fi_ne hj
    generalize ha : fi (fun a => !decide (upz z n a = -1)) n = a at h0 h1 hlo
    have hne : ¬ upz z n a = -1 := by simpa using h1
    have h2 := fiR_y (p := fun b => !decide (b ≤ a) && uf z a b) (n := n) (by omega) hne
    have h3 := fi_yes h2
    have hlo2 : ∀ j, j < fi (fun b => !decide (b ≤ a) && uf z a b) n → (!decide (j ≤ a) && uf z a j) = false := fun j hj => fi_ne (p := fun b => !decide (b ≤ a) && uf z a b) hj
    generalize hb : fi (fun b => !decide (b ≤ a) && uf z a b) n = b at h2 h3 hlo2
    refine ⟨a, b, h0, h2, ?_, ?_, ?_⟩
    · have := fiR_lt (p := fun a => !decide (upz z n a = -1)) (n := n) (by rw [ha]; exact h0)
      rw [ha] at this; exact this
    · have := fiR_lt (p := fun b => !decide (b ≤ a) && uf z a b) (n := n) (by rw [hb]; exact h2)
      rw [hb] at this; exact this
    · refine (fiR_at (p := mfp z) (by omega) (by rw [mfp_uf (by omega)]; exact h3) (fun j hj => ?_)).symm
      rw [show j = 8 * (j / 8) + j % 8 by omega, mfp_uf (by omega)]
      by_cases q : j / 8 < a
      · have h5 := hlo (j / 8) q
        have h6 : upz z n (j / 8) = -1 := by simpa using h5
        by_cases q2 : j % 8 < n
        · exact (fiR_m1 (by omega)).mp h6 _ q2
        · rw [mfp_hi hn hk (by omega) (by omega) (by omega), Bool.and_false]
      · have e : j / 8 = a := by omega
        rw [e]; exact hlo2 _ (by omega)
theorem sI_add {f : Nat → Int32} {a : Nat} : ∀ {b : Nat}, sI f (a + b) = sI f a + sI (fun j => f (a + j)) b
  | 0 => (ad_0 _).symm
  | b + 1 => by
    show sI f (a + b) + f (a + b) = sI f a + (sI (fun j => f (a + j)) b + f (a + b))
    rw [sI_add, Int32.add_assoc]
theorem sI_z {f : Nat → Int32} {a : Nat} (h : ∀ j, a ≤ j → f j = nI 0) : ∀ {b : Nat}, sI f (a + b) = sI f a
  | 0 => rfl
  | b + 1 => by
    show sI f (a + b) + f (a + b) = _
    rw [sI_z h, h _ (by omega), ad_0]
/-- how many pairs do not fit: the same -/
theorem ufc_z {z : Nat → Int32} {n : Nat} {mk : Nat → Nat} (hn : n ≤ 8) (hk : gk z n mk) : ufc z n = sI (fun k => bI (mfp z k)) (8 * n) := by
  unfold ufc
  have h : ∀ a, a ≤ n → sI (fun a => sI (fun b => bI (!decide (b ≤ a) && uf z a b)) n) a = sI (fun k => bI (mfp z k)) (8 * a) := fun a => by
    induction a with
    | zero => intro _; rfl
    | succ a ih =>
      intro ha
      show sI (fun a => sI (fun b => bI (!decide (b ≤ a) && uf z a b)) n) a + sI (fun b => bI (!decide (b ≤ a) && uf z a b)) n = _
      rw [ih (by omega), show 8 * (a + 1) = 8 * a + 8 by omega, sI_add]
      congr 1
      have e : sI (fun b => bI (!decide (b ≤ a) && uf z a b)) 8 = sI (fun b => bI (!decide (b ≤ a) && uf z a b)) n := by
        have h8 : n + (8 - n) = 8 := by omega
        have : ∀ m, m ≤ 8 - n → sI (fun b => bI (!decide (b ≤ a) && uf z a b)) (n + m) = sI (fun b => bI (!decide (b ≤ a) && uf z a b)) n := fun m => by
          induction m with
          | zero => intro _; rfl
          | succ m ih =>
            intro hm
            show sI (fun b => bI (!decide (b ≤ a) && uf z a b)) (n + m) + bI (!decide (n + m ≤ a) && uf z a (n + m)) = _
            rw [ih (by omega), mfp_hi hn hk (by omega) (by omega) (by omega), Bool.and_false]
            exact ad_0 _
        have h9 := this (8 - n) (Nat.le_refl _)
        rw [h8] at h9; exact h9
      rw [← e]
      exact sI_cg (fun j hj => by rw [mfp_uf hj])
  exact h n (Nat.le_refl n)
/-- bounds: class and reference -/
def hpos (n : Nat) (wt U : Nat → Nat) (H : Nat) : Prop := ∀ v, v < n → 0 < wt v → 0 < H ∧ 0 < U v
theorem bc_bn {wt U S : Nat → Nat} {H n : Nat} (hp : hpos n wt U H) : ∀ {v : Nat}, v ≤ n → bcS wt U S H v = bnS wt U S H v ∧ ((bnS wt U S H v).2.2 = 0 → bnS wt U S H v = (0, 1, 0))
  | 0, _ => ⟨rfl, fun _ => rfl⟩
  | v + 1, hv => by
    obtain ⟨h1, h2⟩ := bc_bn hp (v := v) (by omega)
    have e1 : bcS wt U S H (v + 1) = if 0 < wt v then (if (bcS wt U S H v).1 * S v < wt v * H * U v * (bcS wt U S H v).2.1 then (wt v * H * U v, S v, v + 1) else bcS wt U S H v) else bcS wt U S H v := rfl
    have e2 : bnS wt U S H (v + 1) = if 0 < wt v ∧ ((bnS wt U S H v).2.2 = 0 ∨ (bnS wt U S H v).1 * S v < wt v * H * U v * (bnS wt U S H v).2.1) then (wt v * H * U v, S v, v + 1) else bnS wt U S H v := rfl
    rw [h1] at e1
    by_cases q : 0 < wt v
    · rw [if_pos q] at e1
      by_cases t : (bnS wt U S H v).2.2 = 0
      · have e := h2 t
        have hpp := hp v (by omega) q
        have hc : (bnS wt U S H v).1 * S v < wt v * H * U v * (bnS wt U S H v).2.1 := by
          rw [e]; show 0 * S v < wt v * H * U v * 1
          rw [Nat.zero_mul, Nat.mul_one]; exact Nat.mul_pos (Nat.mul_pos q hpp.1) hpp.2
        rw [if_pos hc] at e1
        rw [if_pos ⟨q, Or.inl t⟩] at e2
        rw [e1, e2]
        exact ⟨rfl, fun h => absurd h (Nat.succ_ne_zero v)⟩
      · by_cases c : (bnS wt U S H v).1 * S v < wt v * H * U v * (bnS wt U S H v).2.1
        · rw [if_pos c] at e1
          rw [if_pos ⟨q, Or.inr c⟩] at e2
          rw [e1, e2]; exact ⟨rfl, fun h => absurd h (Nat.succ_ne_zero v)⟩
        · rw [if_neg c] at e1
          rw [if_neg (fun w => w.2.elim t c)] at e2
          rw [e1, e2]; exact ⟨rfl, h2⟩
    · rw [if_neg q] at e1
      rw [if_neg (fun w => q w.1)] at e2
      rw [e1, e2]; exact ⟨rfl, h2⟩
/-- fractions in lowest terms compare as they are -/
theorem fr_lt {a b c d : Nat} (hb : 0 < b) (hd : 0 < d) : a / Nat.gcd a b * (d / Nat.gcd c d) < c / Nat.gcd c d * (b / Nat.gcd a b) ↔ a * d < c * b := by
  have g1 : 0 < Nat.gcd a b := Nat.gcd_pos_of_pos_right _ hb
  have g2 : 0 < Nat.gcd c d := Nat.gcd_pos_of_pos_right _ hd
  obtain ⟨a', ha⟩ := Nat.gcd_dvd_left a b
  obtain ⟨b', hb'⟩ := Nat.gcd_dvd_right a b
  obtain ⟨c', hc⟩ := Nat.gcd_dvd_left c d
  obtain ⟨d', hd'⟩ := Nat.gcd_dvd_right c d
  have e1 : a / Nat.gcd a b = a' := Nat.div_eq_of_eq_mul_right g1 ha
  have e2 : b / Nat.gcd a b = b' := Nat.div_eq_of_eq_mul_right g1 hb'
  have e3 : c / Nat.gcd c d = c' := Nat.div_eq_of_eq_mul_right g2 hc
  have e4 : d / Nat.gcd c d = d' := Nat.div_eq_of_eq_mul_right g2 hd'
  rw [e1, e2, e3, e4]
  have h1 : a * d = Nat.gcd a b * Nat.gcd c d * (a' * d') := by
    calc a * d = (Nat.gcd a b * a') * (Nat.gcd c d * d') := by rw [← ha, ← hd']
      _ = _ := by rw [Nat.mul_mul_mul_comm]
  have h2 : c * b = Nat.gcd a b * Nat.gcd c d * (c' * b') := by
    calc c * b = (Nat.gcd c d * c') * (Nat.gcd a b * b') := by rw [← hc, ← hb']
      _ = _ := by rw [Nat.mul_mul_mul_comm, Nat.mul_comm (Nat.gcd c d)]
  rw [h1, h2]
  exact (Nat.mul_lt_mul_left (Nat.mul_pos g1 g2)).symm
/-- the best handle: class and reference -/
theorem hs_lb {z : Nat → Int32} {n d b size : Nat} {wt U : Nat → Nat} {S : Nat → Nat → Nat} {H : Nat → Nat} (hB : lbHyp z n d b size wt U S H) (hp : ∀ c, c < b ^ d → upR (hnR z d c b size d) n = -1 → hpos n wt U (H c)) : ∀ {c : Nat}, c ≤ b ^ d → ((hsS z n d b size wt U S H c).2 = 0 → lbS z n d b size wt U S H c = (0, 0, 0)) ∧ (0 < (hsS z n d b size wt U S H c).2 → lbS z n d b size wt U S H c = ((rdQ (hsS z n d b size wt U S H c).1).1, (rdQ (hsS z n d b size wt U S H c).1).2.1, (hsS z n d b size wt U S H c).2) ∧ 0 < (lbS z n d b size wt U S H c).2.1)
  | 0, _ => ⟨fun _ => rfl, fun h => absurd h (Nat.lt_irrefl 0)⟩
  | c + 1, hc => by
    obtain ⟨i1, i2⟩ := hs_lb hB hp (c := c) (by omega)
    have e1 : hsS z n d b size wt U S H (c + 1) = if upR (hnR z d c b size d) n = -1 ∧ ((hsS z n d b size wt U S H c).2 = 0 ∨ (bcS wt U (S c) (H c) n).1 * (hsS z n d b size wt U S H c).1.2.1 < (hsS z n d b size wt U S H c).1.1 * (bcS wt U (S c) (H c) n).2.1) then (bcS wt U (S c) (H c) n, c + 1) else hsS z n d b size wt U S H c := rfl
    have e2 : lbS z n d b size wt U S H (c + 1) = if upR (hnR z d c b size d) n = -1 ∧ ((lbS z n d b size wt U S H c).2.1 = 0 ∨ bnA wt U (S c) (H c) n * (lbS z n d b size wt U S H c).2.1 < (lbS z n d b size wt U S H c).1 * bnB wt U (S c) (H c) n) then (bnA wt U (S c) (H c) n, bnB wt U (S c) (H c) n, c + 1) else lbS z n d b size wt U S H c := rfl
    by_cases hup : upR (hnR z d c b size d) n = -1
    · have hbn := (bc_bn (S := S c) (hp c (by omega) hup) (Nat.le_refl n)).1
      have hle := bcS_le (hB c (by omega) hup) n (Nat.le_refl n)
      have eA : bnA wt U (S c) (H c) n = (rdQ (bcS wt U (S c) (H c) n)).1 := by rw [hbn]; rfl
      have eB : bnB wt U (S c) (H c) n = (rdQ (bcS wt U (S c) (H c) n)).2.1 := by rw [hbn]; rfl
      have hBp : 0 < (rdQ (bcS wt U (S c) (H c) n)).2.1 := Nat.div_pos (Nat.le_of_dvd hle.2.1 (Nat.gcd_dvd_right _ _)) (Nat.gcd_pos_of_pos_right _ hle.2.1)
      rw [eA, eB] at e2
      rcases Nat.eq_zero_or_pos (hsS z n d b size wt U S H c).2 with t | t
      · have l0 := i1 t
        rw [if_pos ⟨hup, Or.inl t⟩] at e1
        rw [if_pos ⟨hup, Or.inl (by rw [l0])⟩] at e2
        rw [e1, e2]
        exact ⟨fun h => absurd h (Nat.succ_ne_zero c), fun _ => ⟨rfl, hBp⟩⟩
      · obtain ⟨l1, l2⟩ := i2 t
        have hh := hs_le hB (c := c) (by omega) t
        have hcmp : (rdQ (bcS wt U (S c) (H c) n)).1 * (lbS z n d b size wt U S H c).2.1 < (lbS z n d b size wt U S H c).1 * (rdQ (bcS wt U (S c) (H c) n)).2.1 ↔ (bcS wt U (S c) (H c) n).1 * (hsS z n d b size wt U S H c).1.2.1 < (hsS z n d b size wt U S H c).1.1 * (bcS wt U (S c) (H c) n).2.1 := by
          rw [l1]; exact fr_lt hle.2.1 hh.2.1
        by_cases q : (bcS wt U (S c) (H c) n).1 * (hsS z n d b size wt U S H c).1.2.1 < (hsS z n d b size wt U S H c).1.1 * (bcS wt U (S c) (H c) n).2.1
        · rw [if_pos ⟨hup, Or.inr q⟩] at e1
          rw [if_pos ⟨hup, Or.inr (hcmp.mpr q)⟩] at e2
          rw [e1, e2]
          exact ⟨fun h => absurd h (Nat.succ_ne_zero c), fun _ => ⟨rfl, hBp⟩⟩
        · rw [if_neg (fun w => w.2.elim (fun x => absurd x (by omega)) q)] at e1
          rw [if_neg (fun w => w.2.elim (fun x => absurd x (by omega)) (fun x => q (hcmp.mp x)))] at e2
          rw [e1, e2]; exact ⟨fun h => absurd h (by omega), fun _ => ⟨l1, l2⟩⟩
    · rw [if_neg (fun w => hup w.1)] at e1
      rw [if_neg (fun w => hup w.1)] at e2
      rw [e1, e2]; exact ⟨i1, i2⟩
