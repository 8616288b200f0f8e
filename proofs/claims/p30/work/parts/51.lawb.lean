/-! ===== the law's own method: its script, what all its cases know (by hand) ===== -/
/-- the script, at the cell b9, outside of what is written -/
def CSX (ad : Nat → Nat) (b9 L : Nat) (xs : Nat → Int32) : Kx → Prop
  | (_, _, _, s, _) => va_X b9 L xs s s.heap ∧ b9 < s.heap.size ∧ ¬ fA ad s.heap.size b9
section LAWR
variable {l : Launch} {D : va_G} {cs : Nat → ClassId} {ad : Nat → Nat} {nL : Nat} {κ : Kx} {u : Nat} {M : Mm} {pc : Nat} {lv : List (Nat × Value)} {st : List Value} {cc : ByteArray} {own : String} {fr lo U : Nat}
theorem r_sld (C : CX D cs ad cc nL own fr lo U κ) {b9 L a : Nat} {xs : Nat → Int32} (hX : CSX ad b9 L xs κ) (ha : a < L) (hL : L ≤ 2048) (d : decode cc pc = .ok (.iaload, 1)) (k : VV l D cs ad nL κ u M (pc + 1) lv (.int (xs a) :: st)) : VV l D cs ad nL κ u M pc lv (.int (nI a) :: .ref b9 :: st) := by
  obtain ⟨p, e, R, s, m, args, below, meth, c, c0, s0, Q⟩ := κ
  obtain ⟨hx, hb, hml, hown, hts, hK, hD, hfr, hlo, hc0, hs0⟩ := C
  obtain ⟨h1, h2, h3⟩ := hX
  intro H locs ls hP hS hl
  refine va_sld hx hb h1 h2 h3 hS (vp_in_nI ha (by omega)) d ?_
  rw [nI_clamp (by omega)]
  exact k H locs ls hP hS hl
theorem r_slen (C : CX D cs ad cc nL own fr lo U κ) {b9 L : Nat} {xs : Nat → Int32} (hX : CSX ad b9 L xs κ) (d : decode cc pc = .ok (.arraylength, 1)) (k : VV l D cs ad nL κ u M (pc + 1) lv (.int (nI L) :: st)) : VV l D cs ad nL κ u M pc lv (.ref b9 :: st) := by
  obtain ⟨p, e, R, s, m, args, below, meth, c, c0, s0, Q⟩ := κ
  obtain ⟨hx, hb, hml, hown, hts, hK, hD, hfr, hlo, hc0, hs0⟩ := C
  obtain ⟨h1, h2, h3⟩ := hX
  intro H locs ls hP hS hl
  exact va_slen hx hb h1 h2 h3 hS d (k H locs ls hP hS hl)
end LAWR
theorem lgcT (x : Int64) : lg_cmp x x = 0 := by rw [lgc_eq]
/-- what the doubles of a graph must keep -/
def FPG (z : Nat → Int32) (n : Nat) : Prop := (rsz z n = nI 0 → ¬ bnA (wtz z) (Uz z) (Sz z) (Hz z) n = 0 → vf_n64 (FP.dmul (FP.i2d (wz z n (hvz z n (nI 0)))) (FP.l2d (lN (bnB (wtz z) (Uz z) (Sz z) (Hz z) n)))) ∧ vf_n64 (FP.ddiv (FP.dmul (FP.i2d (wz z n (hvz z n (nI 0)))) (FP.l2d (lN (bnB (wtz z) (Uz z) (Sz z) (Hz z) n)))) (FP.l2d (lN (bnA (wtz z) (Uz z) (Sz z) (Hz z) n))))) ∧ bnA (wtz z) (Uz z) (Sz z) (Hz z) n < 2 ^ 62 ∧ dnn (nrz z n (wtz z) (Uz z) (Sz z) (Hz z)) ∧ bitsOK (nrz z n (wtz z) (Uz z) (Sz z) (Hz z))
def FPH : Prop := ∀ (z : Nat → Int32) (n d : Nat), gz z n d → FPG z n
theorem rs_up {z : Nat → Int32} {n : Nat} {mk : Nat → Nat} (hn : n ≤ 8) (hk : gk z n mk) (h : rsz z n = nI 0) : upR z n = -1 := by
  rcases rs_cases hn hk with ⟨-, q⟩ | ⟨-, -, q⟩ | ⟨-, q, -⟩
  · exact absurd h q
  · exact absurd h q
  · exact q
theorem gz_B {z : Nat → Int32} {n d : Nat} (h : gz z n d) : (rsz z n = nI 0 → bnH z n (wtz z) (Uz z) (Sz z) (Hz z)) ∧ (rsz z n = nI 0 → hpos n (wtz z) (Uz z) (Hz z)) := by
  obtain ⟨h0, h1, h2, h3, ⟨mk, h4⟩, h5, h6, h7, h8, h9, h10⟩ := h
  exact ⟨fun r => (bnH_of h2.2 h6 h7 h8 (rs_up h2.2 h4 r)).1, fun r => (bnH_of h2.2 h6 h7 h8 (rs_up h2.2 h4 r)).2⟩
theorem gz_L {z : Nat → Int32} {n d size b : Nat} (h : gz z n d) (hs : size ≤ 2) (hb : 2 * size + 1 = b) : lbHyp z n d b size (wtz z) (Uz z) (fun c => Sz (hnR z d c b size d)) (fun c => Hz (hnR z d c b size d)) ∧ ∀ c, c < b ^ d → upR (hnR z d c b size d) n = -1 → hpos n (wtz z) (Uz z) (Hz (hnR z d c b size d)) := by
  obtain ⟨h0, h1, h2, h3, ⟨mk, h4⟩, h5, h6, h7, h8, h9, h10⟩ := h
  exact lbHyp_of h2.2 h3.2 hs hb h6 h7 h8
/-- the reference's cells are the same behind a call of the class's -/
theorem eM_ch {M M9 : Mm} {z z2 : Nat → Int32} {n d lt s n2 d2 : Nat} (hlt : lt < 6) (h : chP M M9 z n d lt s z2 n2 d2) : ∀ i, 135 ≤ i → M9.1 i = M.1 i := fun i hi => by
  obtain ⟨M1, h1, h2, -⟩ := h
  rw [h2.1 i (by omega), sv_id h1 hlt (by omega)]
theorem eM_lk {M M9 : Mm} (h : lkP M M9) : ∀ i, 135 ≤ i → M9.1 i = M.1 i := fun i hi => (h i (by omega)).1
theorem eM_I {M M1 : Mm} {z : Nat → Int32} {n d lt s id k : Nat} {x : Int32} {pm : Int32} (hlt : lt < 6) (h : svP M M1 z n d lt s pm) (hid : id < 135) : ∀ i, 135 ≤ i → (mI M1 id k x).1 i = M.1 i := fun i hi => by rw [mI_ne _ (by omega), sv_id h hlt (by omega)]
theorem eM_lc {M M1 M8 M9 : Mm} {z z2 : Nat → Int32} {n d lt s : Nat} {pm : Int32} (hlt : lt < 6) (h1 : fnP z2 n M M1) (h2 : svP M1 M8 z n d lt s pm) (h3 : oG 0 M8 M9) : ∀ i, 135 ≤ i → M9.1 i = M.1 i := fun i hi => by rw [h3.1 i (by omega), sv_id h2 hlt (by omega), h1.1 i (by omega) (by omega)]
theorem eM_th {M M1 M8 M9 : Mm} {z z2 g : Nat → Int32} {n d lt s size b : Nat} {wt U : Nat → Nat} {S : Nat → Nat → Nat} {H : Nat → Nat} {pm : Int32} {P Q : Prop} (hlt : lt < 6) (h1 : rnA z2 n d b size wt U S H M M1) (h2 : svP M1 M8 z n d lt s pm) (h3 : (P ∧ M9 = mA M8 (gH 0) g) ∨ (Q ∧ M9 = M8)) : ∀ i, 135 ≤ i → M9.1 i = M.1 i := fun i hi => by
  have e : M9.1 i = M8.1 i := by
    rcases h3 with ⟨-, h⟩ | ⟨-, h⟩
    · rw [h]; exact mA_ne _ (by simp only [gH]; omega)
    · rw [h]
  rw [e, sv_id h2 hlt (by omega), (h1.1 i (by omega)).1]
theorem eM_mu {M M1 M8 : Mm} {z : Nat → Int32} {n d lt s id k : Nat} {x pm : Int32} (hlt : lt < 6) (h : svP M M1 z n d lt s pm) (h2 : oG 0 M1 M8) (hid : id < 135) : ∀ i, 135 ≤ i → (mI M8 id k x).1 i = M.1 i := fun i hi => by rw [mI_ne _ (by omega), h2.1 i (by omega), sv_id h hlt (by omega)]
theorem eM_un {M M1 : Mm} {x y w : Int32} (h1 : oG 0 M M1) : ∀ i, 135 ≤ i → (mI (mI (mI M1 117 9 x) 120 2 y) 120 3 w).1 i = M.1 i := fun i hi => by rw [mI_ne _ (by omega), mI_ne _ (by omega), mI_ne _ (by omega), h1.1 i (by omega)]
theorem eM_tk {M M1 : Mm} {q : Nat} {k : Nat} {x : Int32} (hq : q ≤ 1) (h1 : oG (1 + q) M M1) : ∀ i, 135 ≤ i → (mI M1 119 k x).1 i = M.1 i := fun i hi => by rw [mI_ne _ (by omega), h1.1 i (by omega)]
theorem eM_ap {M : Mm} {j k : Nat} {x y : Int32} : ∀ i, 135 ≤ i → (mI (mI M 124 j x) 123 k y).1 i = M.1 i := fun i hi => by rw [mI_ne _ (by omega), mI_ne _ (by omega)]
theorem jo_54 {z : Nat → Int32} {a b : Nat} {i : Bool} (ha : a < 8) (hb : b < 8) : joR z a b i 54 = z 54 := by unfold joR; rw [upd_n _ _ (by omega), upd_n _ _ (by omega)]
theorem rd_54 {z : Nat → Int32} {da db : Nat → Nat} : ∀ {J : Nat}, (∀ j, j < J → da j < 8 ∧ db j < 8) → rdR z da db J 54 = z 54
  | 0, _ => rfl
  | J + 1, h => by
    unfold rdR
    rw [jo_54 (h J (by omega)).1 (h J (by omega)).2]; exact rd_54 (fun j hj => h j (by omega))
theorem go_J {ct : Nat → Nat} {n len J : Nat} (hn : n ≤ 8) (hJ : 3 * J = len + 1) (h : fi (fun k => !goN ct n k) len = len) : ∀ j, 3 * j + 1 < len → 48 ≤ ct (3 * j) ∧ ct (3 * j) < ct (3 * j + 1) ∧ ct (3 * j + 1) < 48 + n := fun j hj => by
  have g : ∀ k, k < len → goN ct n k = true := fun k hk => by
    have := fi_ne (p := fun k => !goN ct n k) (n := len) (j := k) (by rw [h]; exact hk)
    simpa using this
  have h1 := g (3 * j) (by omega)
  have h2 := g (3 * j + 1) (by omega)
  unfold goN at h1 h2
  rw [decide_eq_true_iff, if_pos (by omega)] at h1
  rw [decide_eq_true_iff, if_neg (by omega), if_pos (by omega), show 3 * j + 1 - 1 = 3 * j by omega] at h2
  exact ⟨h1.1, h2.1, h2.2⟩
theorem gz_gm {z : Nat → Int32} {n d : Nat} (h : gz z n d) : gm z n := by
  obtain ⟨h0, h1, h2, h3, ⟨mk, h4⟩, -⟩ := h
  exact gk_gm h2.2 h4
theorem em_54 {z : Nat → Int32} {a b : Nat} (ha : a ≤ 8) : emR z a b 54 = z 54 := by unfold emR; rw [if_neg (by decide), if_neg (by decide), if_neg (by omega), if_neg (by decide)]
theorem cp_54 {z : Nat → Int32} {n : Nat} (hn : n ≤ 8) : cpl z n n 54 = z 54 := by unfold cpl; rw [if_neg (by omega)]
theorem rm_54 {z : Nat → Int32} {n v : Nat} (hn : n ≤ 8) : rmR z n v 54 = z 54 := by
  unfold rmR cbA rmC rmA
  rw [if_neg (by omega), if_neg (by omega), if_neg (by decide), if_neg (by omega), if_neg (by omega)]
theorem lc_54 {z c g : Nat → Int32} {n : Nat} (hn : n ≤ 8) : rsK (lcT z c (4 * n)) g 4 54 = z 54 := by
  unfold rsK lcT; rw [if_neg (by decide), if_neg (by omega)]
theorem cn_le {z : Nat → Int32} {n : Nat} (hn : n ≤ 8) : cnK z n ≤ 100 := by
  unfold cnK; have := fi_le (fun k => (cfC z n k).isSome) n; omega
theorem ct_cg {z t1 t2 : Nat → Int32} {s1 s2 : Int32} {n d k : Nat} (h0 : t1 0 = t2 0) (h1 : t1 1 = t2 1) (hs : s1 = s2) : ctz z t1 s1 n d k = ctz z t2 s2 n d k := by unfold ctz; rw [h0, h1, hs]
theorem dg_cg {z t1 t2 x1 x2 : Nat → Int32} {s1 s2 : Int32} {n d len : Nat} {wt U S0 : Nat → Nat} {H0 : Nat} {U1 : Nat → Nat} {S : Nat → Nat → Nat} {H : Nat → Nat} (h0 : t1 0 = t2 0) (h1 : t1 1 = t2 1) (hs : s1 = s2) (hx : ∀ k, k < len → x1 k = x2 k) : dgz z t1 x1 s1 n d len wt U S0 H0 U1 S H = dgz z t2 x2 s2 n d len wt U S0 H0 U1 S H := by
  unfold dgz
  have e : hsC cT (fun k => (ctz z t1 s1 n d k).toInt64) 2521 12 = hsC cT (fun k => (ctz z t2 s2 n d k).toInt64) 2521 12 := hsC_cg (fun k _ => by rw [ct_cg h0 h1 hs])
  rw [e]
  exact hsC_cg (fun k hk => by rw [hx k hk])
theorem ov_md {z F : Nat → Int32} {x : Int32} : ∀ j, j < 55 → upd (ovR z F 0 54) 54 x j = (fun j => if j < 54 then F j else x) j := fun j hj => by
  show upd (ovR z F 0 54) 54 x j = if j < 54 then F j else x
  by_cases q : j = 54
  · subst q; rw [upd_e, if_neg (by decide)]
  · rw [upd_n _ _ q, if_pos (by omega)]; unfold ovR; rw [if_pos (by omega), Nat.zero_add]
