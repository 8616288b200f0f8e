/-! ===== pure: what an act leaves (by hand) ===== -/
/-- class and law hold the same state -/
def ST (M : Mm) : Prop := ∃ z n d e s, CS M z n d e s ∧ LR M z n d e ∧ M.1 135 2 = nI s
theorem CS_ch {M M2 : Mm} {z z2 : Nat → Int32} {n d s lt n2 d2 : Nat} {e e2 : Nat → Nat → Bool} (h : CS M z n d e s) (hlt : lt < 6) (hc : chP M M2 z n d lt s z2 n2 d2) (hq : gq z2 n2 d2 e2) (hn : n2 ≤ 4) (hi : ∀ a, a < n2 → e2 a a = false) (h54 : z2 54 = z 54) : CS M2 z2 n2 d2 e2 (mn6 s) := by
  obtain ⟨h1, h2, h3, h4, h5, h6, h7, h8, -⟩ := h
  obtain ⟨M1, g1, g2, g3⟩ := hc
  have k : ∀ i, i = 117 ∨ i = 119 → M2.1 i = M.1 i := fun i hi => by
    rw [g2.1 i (by omega), g1.2.2.2.2.2.1 i (by have := nx6_lt hlt; omega) (by omega) (by omega)]
  refine ⟨hq, hn, hi, g3, by rw [k 117 (Or.inl rfl), h5, h54], fun j q => by rw [k 119 (Or.inr rfl)]; exact h6 j q, by unfold mn6; split <;> omega, ?_, nx6 lt, nx6_lt hlt, ?_⟩
  · rw [g2.1 120 (by omega)]; exact g1.2.2.1
  · rw [g2.1 120 (by omega)]; exact g1.2.1
theorem ST_ch {M M2 : Mm} {z z2 : Nat → Int32} {n d s lt n2 d2 : Nat} {e e2 : Nat → Nat → Bool} (h : CS M z n d e s) (hlt : lt < 6) (hc : chP M M2 z n d lt s z2 n2 d2) (hq : gq z2 n2 d2 e2) (hn : n2 ≤ 4) (hi : ∀ a, a < n2 → e2 a a = false) (h54 : z2 54 = z 54) (hL : LR M z2 n2 d2 e2) (hz : M.1 135 2 = nI (mn6 s)) : ST M2 := by
  have k := eM_ch hlt hc
  exact ⟨z2, n2, d2, e2, mn6 s, CS_ch h hlt hc hq hn hi h54, lk_LR hL (fun i h1 _ => k i h1), by rw [k 135 (by decide)]; exact hz⟩
/-- how many states are saved behind an act -/
def svd (c n a b s : Nat) : Nat := if (c = 1 ∧ n ≤ 1) ∨ (2 ≤ c ∧ c ≤ 4 ∧ a = b) then s else mn6 s
theorem svd_y {c n a b s : Nat} (h : (c = 1 ∧ n ≤ 1) ∨ (2 ≤ c ∧ c ≤ 4 ∧ a = b)) : svd c n a b s = s := if_pos h
theorem svd_n {c n a b s : Nat} (h : ¬ ((c = 1 ∧ n ≤ 1) ∨ (2 ≤ c ∧ c ≤ 4 ∧ a = b))) : svd c n a b s = mn6 s := if_neg h
theorem svd_6 {c n a b s : Nat} (h : s = 6) : svd c n a b s = s := by
  unfold svd mn6
  split
  · rfl
  · rw [if_neg (by omega)]; omega
/-- between the counter's step and the act itself -/
def A7 (M M0 : Mm) (n d c a b s : Nat) : Prop := (∀ i, i ≠ 135 → M0.1 i = M.1 i) ∧ M0.1 135 0 = nI n ∧ M0.1 135 1 = nI d ∧ M0.1 135 2 = nI (svd c n a b s)
theorem A7_0 {M : Mm} {z : Nat → Int32} {n d c a b s : Nat} {e : Nat → Nat → Bool} (hL : LR M z n d e) (h2 : M.1 135 2 = nI s) (h : svd c n a b s = s) : A7 M M n d c a b s := ⟨fun _ _ => rfl, hL.1, hL.2.1, by rw [h]; exact h2⟩
theorem A7_1 {M : Mm} {z : Nat → Int32} {n d c a b s : Nat} {e : Nat → Nat → Bool} (hL : LR M z n d e) (h : svd c n a b s = s + 1) : A7 M (mI M 135 2 (nI (s + 1))) n d c a b s := ⟨fun i hi => mI_ne _ hi, by rw [mI_eq, upd_n _ _ (by decide)]; exact hL.1, by rw [mI_eq, upd_n _ _ (by decide)]; exact hL.2.1, by rw [mI_eq, upd_e, h]⟩
theorem A7_L {M M0 : Mm} {z : Nat → Int32} {n d c a b s : Nat} {e : Nat → Nat → Bool} (h : A7 M M0 n d c a b s) (hL : LR M z n d e) : LR M0 z n d e := by
  obtain ⟨-, -, l3, l4, l5, l6⟩ := hL
  refine ⟨h.2.1, h.2.2.1, ?_, ?_, ?_, ?_⟩
  · rw [h.1 136 (by decide)]; exact l3
  · rw [h.1 137 (by decide)]; exact l4
  · rw [h.1 138 (by decide)]; exact l5
  · rw [h.1 139 (by decide)]; exact l6
theorem ST_0 {M : Mm} {z : Nat → Int32} {n d s : Nat} {e : Nat → Nat → Bool} (h : CS M z n d e s) (hL : LR M z n d e) (h0 : M.1 135 2 = nI s) : ST M := ⟨z, n, d, e, s, h, hL, h0⟩
section AR
variable {M M2 : Mm} {z : Nat → Int32} {n d : Nat} {e : Nat → Nat → Bool}
/-- rows of the edges alone have changed -/
theorem LR_ed {y : Nat → Int32} {e2 : Nat → Nat → Bool} (hL : LR M z n d e) (h1 : ∀ i, 135 ≤ i → i < 140 → i ≠ 137 → M2.1 i = M.1 i) (h2 : ∀ p q, p < n → q < n → M2.1 137 (4 * p + q) = bI (e2 p q)) (hy : ∀ j, (2 ≤ j ∧ j < 10) ∨ 18 ≤ j → y j = z j) (hn : n ≤ 4) : LR M2 y n d e2 := by
  obtain ⟨l1, l2, l3, l4, l5, l6⟩ := hL
  refine ⟨by rw [h1 135 (by decide) (by decide) (by decide)]; exact l1, by rw [h1 135 (by decide) (by decide) (by decide)]; exact l2, fun v hv => ?_, h2, fun v p hv hp => ?_, fun p hp => ?_⟩
  · rw [h1 136 (by decide) (by decide) (by decide), hy _ (by omega)]; exact l3 v hv
  · rw [h1 138 (by decide) (by decide) (by decide), hy _ (by omega)]; exact l5 v p hv hp
  · rw [h1 139 (by decide) (by decide) (by decide), hy _ (by omega)]; exact l6 p hp
def joE (e : Nat → Nat → Bool) (a b : Nat) (i : Bool) : Nat → Nat → Bool := fun v k => if (v = a ∧ k = b) ∨ (v = b ∧ k = a) then i else e v k
theorem LR_jo {a b : Nat} {i : Bool} (hL : LR M z n d e) (hn : n ≤ 4) (ha : a < n) (hb : b < n) (hM : M2 = mI (mI M 137 (4 * a + b) (bI i)) 137 (4 * b + a) (bI i)) : LR M2 (joR z a b i) n d (joE e a b i) := by
  subst hM
  refine LR_ed hL (fun j _ _ h3 => by rw [mI_ne _ h3, mI_ne _ h3]) (fun p q hp hq => ?_) (fun j hj => ?_) hn
  · rw [mI_eq, mI_eq]
    unfold joE
    by_cases c1 : p = b ∧ q = a
    · rw [c1.1, c1.2, upd_e, if_pos (Or.inr ⟨rfl, rfl⟩)]
    · rw [upd_n _ _ (by omega)]
      by_cases c2 : p = a ∧ q = b
      · rw [c2.1, c2.2, upd_e, if_pos (Or.inl ⟨rfl, rfl⟩)]
      · rw [upd_n _ _ (by omega), if_neg (by omega)]
        exact hL.2.2.2.1 p q hp hq
  · unfold joR; rw [upd_n _ _ (by omega), upd_n _ _ (by omega)]
theorem joE_i {a b : Nat} {i : Bool} (hi : ∀ v, v < n → e v v = false) (hab : a ≠ b) : ∀ v, v < n → joE e a b i v v = false := fun v hv => by
  unfold joE; rw [if_neg (by omega)]; exact hi v hv
/-- how many edges there are, told by the pairs -/
theorem edg : ∀ n : Fin 5, ∀ g : Fin 64, sI (fun v => sI (fun j => bI (geB g.val v j)) n.val) n.val / nI 2 = sI (fun i => sI (fun j => bI (geB g.val i j)) i) n.val := by decide +kernel
theorem edz_e (hq : gq z n d e) (hn : n ≤ 4) (hi : ∀ a, a < n → e a a = false) : edz z n = sI (fun i => sI (fun j => bI (e i j)) i) n := by
  obtain ⟨-, -, hn1, -, he, hs, -⟩ := hq
  obtain ⟨g, hg, hE⟩ := ge_ex hn hs hi
  have h1 : edz z n = sI (fun v => sI (fun j => bI (geB g v j)) n) n / nI 2 := by
    unfold edz
    refine congrArg (fun x => x / nI 2) (sI_cg (fun v hv => ?_))
    rw [on_e hn1.2 he (eb_gk hn1.2 he) hv]
    exact sI_cg (fun j hj => by rw [hE v j hv hj])
  rw [h1]
  refine (edg ⟨n, by omega⟩ ⟨g, hg⟩).trans ?_
  exact sI_cg (fun i hi9 => sI_cg (fun j hj => by
    have hi9 : i < n := hi9
    rw [hE i j hi9 (by omega)]))
def cpE (e : Nat → Nat → Bool) : Nat → Nat → Bool := fun v k => !e v k && !decide (v = k)
/-- the complement, laid up to the pair (i, j) -/
def cp9I (e : Nat → Nat → Bool) (n i j : Nat) (M M3 : Mm) : Prop := o1 137 M M3 ∧ ∀ p q, p < n → q < n → M3.1 137 (4 * p + q) = bI (if p < i ∨ (p = i ∧ q < j) then cpE e p q else e p q)
theorem cp9_0 (hL : LR M z n d e) : cp9I e n 0 0 M M := ⟨o1.rf 137 M, fun p q hp hq => by rw [if_neg (by omega)]; exact hL.2.2.2.1 p q hp hq⟩
theorem cp9_r {i j : Nat} {M3 : Mm} (h : cp9I e n i j M M3) (hi : i < n) (hj : j < n) : M3.1 137 (4 * i + j) = bI (e i j) := by rw [h.2 i j hi hj, if_neg (by omega)]
theorem cp9_s {i j : Nat} {M3 : Mm} (h : cp9I e n i j M M3) (hn : n ≤ 4) (hi : i < n) (hj : j < n) (hij : i ≠ j) : cp9I e n i (j + 1) M (mI M3 137 (4 * i + j) (bI (!e i j))) := ⟨h.1.I, fun p q hp hq => by
  rw [mI_eq]
  by_cases c : p = i ∧ q = j
  · rw [c.1, c.2, upd_e, if_pos (by omega)]
    unfold cpE
    rw [decide_eq_false hij, Bool.not_false, Bool.and_true]
  · rw [upd_n _ _ (by omega), h.2 p q hp hq]
    by_cases c2 : p < i ∨ (p = i ∧ q < j)
    · rw [if_pos c2, if_pos (by omega)]
    · rw [if_neg c2, if_neg (by omega)]⟩
theorem cp9_d {i j : Nat} {M3 : Mm} (h : cp9I e n i j M M3) (hi9 : ∀ a, a < n → e a a = false) (hi : i < n) (hij : i = j) : cp9I e n i (j + 1) M M3 := ⟨h.1, fun p q hp hq => by
  rw [h.2 p q hp hq]
  by_cases c : p = i ∧ q = j
  · obtain ⟨rfl, rfl⟩ := c
    subst hij
    rw [if_neg (by omega), if_pos (by omega)]
    unfold cpE
    rw [decide_eq_true rfl, hi9 p hp]; rfl
  · by_cases c2 : p < i ∨ (p = i ∧ q < j)
    · rw [if_pos c2, if_pos (by omega)]
    · rw [if_neg c2, if_neg (by omega)]⟩
theorem cp9_n {i : Nat} {M3 : Mm} (h : cp9I e n i n M M3) : cp9I e n (i + 1) 0 M M3 := ⟨h.1, fun p q hp hq => by
  rw [h.2 p q hp hq]
  by_cases c2 : p < i ∨ (p = i ∧ q < n)
  · rw [if_pos c2, if_pos (by omega)]
  · rw [if_neg c2, if_neg (by omega)]⟩
theorem LR_cp {M3 : Mm} (hL : LR M z n d e) (hn : n ≤ 4) (h : cp9I e n n 0 M M3) : LR M3 (cpl z n n) n d (cpE e) := by
  refine LR_ed hL (fun i _ _ h3 => h.1.1 i h3) (fun p q hp hq => ?_) (fun j hj => ?_) hn
  · rw [h.2 p q hp hq, if_pos (Or.inl hp)]
  · unfold cpl; rw [if_neg (by omega)]
theorem cpE_i : ∀ v, v < n → cpE e v v = false := fun v _ => by unfold cpE; rw [decide_eq_true rfl, Bool.not_true, Bool.and_false]
theorem one_b (b : Bool) : nI 1 - bI b = bI (!b) := by cases b <;> rfl
/-- the pairs of a row so far, those before it alone -/
theorem in9_s {f : Nat → Int32} {i j : Nat} (h : j < i) : sI f (min (j + 1) i) = sI f (min j i) + f j := by rw [Nat.min_eq_left (by omega), Nat.min_eq_left (by omega)]; rfl
theorem in9_k {f : Nat → Int32} {i j : Nat} (h : i ≤ j) : sI f (min (j + 1) i) = sI f (min j i) := by rw [Nat.min_eq_right (by omega), Nat.min_eq_right (by omega)]
/-- begun anew: the rows so far -/
def emI (k : Nat) (M M3 : Mm) : Prop := (∀ i, i ≠ 137 → i ≠ 138 → M3.1 i = M.1 i) ∧ ∀ j, j < k → M3.1 137 j = nI 0 ∧ M3.1 138 j = nI 0
def emJ (k : Nat) (M M4 : Mm) : Prop := (∀ i, i ≠ 136 → i ≠ 137 → i ≠ 138 → i ≠ 139 → M4.1 i = M.1 i) ∧ (∀ j, j < 16 → M4.1 137 j = nI 0 ∧ M4.1 138 j = nI 0) ∧ ∀ j, j < k → M4.1 136 j = nI 1 ∧ M4.1 139 j = nI 0
theorem em_s {k : Nat} {M3 : Mm} (h : emI k M M3) : emI (k + 1) M (mI (mI M3 137 k (nI 0)) 138 k (nI 0)) := ⟨fun i h1 h2 => by rw [mI_ne _ h2, mI_ne _ h1]; exact h.1 i h1 h2, fun j hj => by
  rw [mI_ne _ (show 137 ≠ 138 by decide), mI_eq, mI_eq, mI_ne _ (show 138 ≠ 137 by decide)]
  by_cases c : j = k
  · rw [c, upd_e, upd_e]; exact ⟨rfl, rfl⟩
  · rw [upd_n _ _ c, upd_n _ _ c]; exact h.2 j (by omega)⟩
theorem em_t {M3 : Mm} (h : emI 16 M M3) : emJ 0 M M3 := ⟨fun i _ h2 h3 _ => h.1 i h2 h3, h.2, fun j hj => absurd hj (Nat.not_lt_zero j)⟩
theorem em_u {k : Nat} {M4 : Mm} (h : emJ k M M4) : emJ (k + 1) M (mI (mI M4 136 k (nI 1)) 139 k (nI 0)) := ⟨fun i h1 h2 h3 h4 => by rw [mI_ne _ h4, mI_ne _ h1]; exact h.1 i h1 h2 h3 h4, fun j hj => by
    rw [mI_ne _ (show 137 ≠ 139 by decide), mI_ne _ (show 137 ≠ 136 by decide), mI_ne _ (show 138 ≠ 139 by decide), mI_ne _ (show 138 ≠ 136 by decide)]; exact h.2.1 j hj, fun j hj => by
  rw [mI_ne _ (show 136 ≠ 139 by decide), mI_eq, mI_eq, mI_ne _ (show 139 ≠ 136 by decide)]
  by_cases c : j = k
  · rw [c, upd_e, upd_e]; exact ⟨rfl, rfl⟩
  · rw [upd_n _ _ c, upd_n _ _ c]; exact h.2.2 j (by omega)⟩
theorem LR_em {M4 : Mm} {a b : Nat} (h : emJ 4 M M4) (h0 : M.1 135 0 = nI a) (h1 : M.1 135 1 = nI b) (ha : a ≤ 4) : LR M4 (emR z a b) a b (fun _ _ => false) := by
  refine ⟨by rw [h.1 135 (by decide) (by decide) (by decide) (by decide)]; exact h0, by rw [h.1 135 (by decide) (by decide) (by decide) (by decide)]; exact h1, fun v hv => ?_, fun p q hp hq => ?_, fun v p hv hp => ?_, fun p hp => ?_⟩
  · rw [(h.2.2 v (by omega)).1]; unfold emR; rw [if_neg (by omega), if_neg (by omega), if_pos (by omega)]
  · rw [(h.2.1 (4 * p + q) (by omega)).1]; rfl
  · rw [(h.2.1 (4 * v + p) (by omega)).2]; unfold emR; rw [if_neg (by omega), if_neg (by omega), if_neg (by omega), if_pos (by omega)]
  · rw [(h.2.2 p hp).2]; unfold emR; rw [if_neg (by omega), if_neg (by omega), if_neg (by omega), if_pos (by omega)]
/-- a row of which the part from lo to J has moved down by off -/
def shA (f g : Nat → Int32) (lo J off : Nat) : Prop := ∀ j, g j = if lo ≤ j ∧ j < J then f (j + off) else f j
theorem sh_0 (f : Nat → Int32) (lo off : Nat) : shA f f lo lo off := fun j => by rw [if_neg (by omega)]
theorem sh_r {f g : Nat → Int32} {lo J off : Nat} (h : shA f g lo J off) (ho : 0 < off) : g (J + off) = f (J + off) := by rw [h, if_neg (by omega)]
theorem sh_s {f g : Nat → Int32} {lo J off : Nat} {x : Int32} (h : shA f g lo J off) (hl : lo ≤ J) (ho : 0 < off) (hx : x = g (J + off)) : shA f (upd g J x) lo (J + 1) off := fun j => by
  by_cases c : j = J
  · rw [c, upd_e, if_pos (by omega), hx, sh_r h ho]
  · rw [upd_n _ _ c, h j]
    by_cases c2 : lo ≤ j ∧ j < J
    · rw [if_pos c2, if_pos (by omega)]
    · rw [if_neg c2, if_neg (by omega)]
/-- rows of which the columns from a on have moved, up to the row v and its column K -/
def shC (f g : Nat → Int32) (a v K : Nat) : Prop := ∀ j, g j = if (j / 4 < v ∨ (j / 4 = v ∧ j % 4 < K)) ∧ a ≤ j % 4 ∧ j % 4 < 3 then f (j + 1) else f j
theorem sc_0 (f : Nat → Int32) (a : Nat) : shC f f a 0 0 := fun j => by rw [if_neg (by omega)]
theorem sc_a {f g : Nat → Int32} {a v : Nat} (h : shC f g a v 0) : shC f g a v a := fun j => by
  rw [h j]
  by_cases c : (j / 4 < v ∨ (j / 4 = v ∧ j % 4 < 0)) ∧ a ≤ j % 4 ∧ j % 4 < 3
  · rw [if_pos c, if_pos (by omega)]
  · rw [if_neg c, if_neg (by omega)]
theorem sc_s {f g : Nat → Int32} {a v K : Nat} {x : Int32} (h : shC f g a v K) (ha : a ≤ K) (hK : K < 3) (hx : x = g (4 * v + K + 1)) : shC f (upd g (4 * v + K) x) a v (K + 1) := fun j => by
  by_cases c : j = 4 * v + K
  · rw [c, upd_e, if_pos (by omega), hx, h, if_neg (by omega)]
  · rw [upd_n _ _ c, h j]
    by_cases c2 : (j / 4 < v ∨ (j / 4 = v ∧ j % 4 < K)) ∧ a ≤ j % 4 ∧ j % 4 < 3
    · rw [if_pos c2, if_pos (by omega)]
    · rw [if_neg c2, if_neg (by omega)]
theorem sc_n {f g : Nat → Int32} {a v K : Nat} (h : shC f g a v K) (hK : 3 ≤ K) : shC f g a (v + 1) 0 := fun j => by
  rw [h j]
  by_cases c2 : (j / 4 < v ∨ (j / 4 = v ∧ j % 4 < K)) ∧ a ≤ j % 4 ∧ j % 4 < 3
  · rw [if_pos c2, if_pos (by omega)]
  · rw [if_neg c2, if_neg (by omega)]
def rmE (e : Nat → Nat → Bool) (v : Nat) : Nat → Nat → Bool := fun a k => e (if a < v then a else a + 1) (if k < v then k else k + 1)
/-- a vertex taken away from the law's rows -/
theorem LR_rm {M5 : Mm} {a : Nat} {F : Nat → Int32} (hL : LR M z n d e) (hn : n ≤ 4) (ha : a < n) (hn2 : 2 ≤ n) (h0 : M5.1 135 0 = nI (n - 1)) (h1 : M5.1 135 1 = nI d) (hw : shA (M.1 136) (M5.1 136) a (n - 1) 1) (hl : shA (M.1 138) (M5.1 138) (4 * a) (4 * (n - 1)) 4) (hF : shA (M.1 137) F (4 * a) (4 * (n - 1)) 4) (hC : shC F (M5.1 137) a (n - 1) 0) (hh : M5.1 139 = M.1 139) : LR M5 (rmR z n a) (n - 1) d (rmE e a) := by
  obtain ⟨l1, l2, l3, l4, l5, l6⟩ := hL
  have hj : ∀ j, (j < n - 1 + 2 ∧ 2 ≤ j) ∨ (18 ≤ j ∧ j < 18 + 4 * (n - 1)) ∨ 50 ≤ j ∨ j = 1 ∨ j = 0 → rmR z n a j = rmA z n a (n - 1) j := fun j hj => by
    unfold rmR cbA rmC; rw [if_neg (by omega), if_neg (by omega)]
  refine ⟨h0, h1, fun v hv => ?_, fun p q hp hq => ?_, fun v p hv hp => ?_, fun p hp => ?_⟩
  · rw [hw v, hj _ (by omega)]
    unfold rmA
    by_cases c : v < a
    · rw [if_neg (by omega), if_neg (by omega), if_neg (by omega), if_neg (by omega)]; exact l3 v (by omega)
    · rw [if_pos (by omega), if_neg (by omega), if_pos (by omega)]; exact l3 (v + 1) (by omega)
  · have hf : ∀ q, q < 4 → F (4 * p + q) = M.1 137 (4 * (if p < a then p else p + 1) + q) := fun q hq => by
      rw [hF]
      by_cases c : p < a
      · rw [if_neg (by omega), if_pos c]
      · rw [if_pos (by omega), if_neg c, show 4 * p + q + 4 = 4 * (p + 1) + q by omega]
    have hp2 : (if p < a then p else p + 1) < n := by split <;> omega
    rw [hC]
    unfold rmE
    by_cases c : q < a
    · rw [if_neg (by omega), hf q (by omega), if_pos c]
      exact l4 _ q hp2 (by omega)
    · rw [if_pos (by omega), show 4 * p + q + 1 = 4 * p + (q + 1) by omega, hf (q + 1) (by omega), if_neg c]
      exact l4 _ (q + 1) hp2 (by omega)
  · rw [hl (4 * v + p), hj _ (by omega)]
    unfold rmA
    by_cases c : v < a
    · rw [if_neg (by omega), if_neg (by omega), if_neg (by omega), if_neg (by omega)]; exact l5 v p (by omega) hp
    · rw [if_pos (by omega), if_neg (by omega), if_neg (by omega), if_pos (by omega), show 4 * v + p + 4 = 4 * (v + 1) + p by omega, show 18 + 4 * v + p + 4 = 18 + 4 * (v + 1) + p by omega]
      exact l5 (v + 1) p (by omega) hp
  · rw [hh, hj _ (by omega)]
    unfold rmA
    rw [if_neg (by omega), if_neg (by omega), if_neg (by omega)]; exact l6 p hp
theorem rmE_i {a : Nat} (hi : ∀ v, v < n → e v v = false) (hn2 : 2 ≤ n) : ∀ v, v < n - 1 → rmE e a v v = false := fun v hv => by
  unfold rmE; exact hi _ (by split <;> omega)
theorem LR_w {a m : Nat} (hL : LR M z n d e) (hn : n ≤ 4) (ha : a < n) : LR (mI M 136 a (nI m)) (upd z (2 + a) (nI m)) n d e := by
  obtain ⟨l1, l2, l3, l4, l5, l6⟩ := hL
  refine ⟨by rw [mI_ne _ (by decide)]; exact l1, by rw [mI_ne _ (by decide)]; exact l2, fun v hv => ?_, fun p q hp hq => by rw [mI_ne _ (by decide)]; exact l4 p q hp hq, fun v p hv hp => by rw [mI_ne _ (by decide), upd_n _ _ (by omega)]; exact l5 v p hv hp, fun p hp => by rw [mI_ne _ (by decide), upd_n _ _ (by omega)]; exact l6 p hp⟩
  rw [mI_eq]
  by_cases c : v = a
  · rw [c, upd_e, upd_e]
  · rw [upd_n _ _ c, upd_n _ _ (by omega)]; exact l3 v hv
theorem LR_l {a p9 : Nat} {w : Int32} (hL : LR M z n d e) (hn : n ≤ 4) (ha : a < n) (hp9 : p9 < 4) : LR (mI M 138 (4 * a + p9) w) (upd z (18 + 4 * a + p9) w) n d e := by
  obtain ⟨l1, l2, l3, l4, l5, l6⟩ := hL
  refine ⟨by rw [mI_ne _ (by decide)]; exact l1, by rw [mI_ne _ (by decide)]; exact l2, fun v hv => by rw [mI_ne _ (by decide), upd_n _ _ (by omega)]; exact l3 v hv, fun p q hp hq => by rw [mI_ne _ (by decide)]; exact l4 p q hp hq, fun v p hv hp => ?_, fun p hp => by rw [mI_ne _ (by decide), upd_n _ _ (by omega)]; exact l6 p hp⟩
  rw [mI_eq]
  by_cases c : 4 * v + p = 4 * a + p9
  · rw [c, upd_e, show 18 + 4 * v + p = 18 + 4 * a + p9 by omega, upd_e]
  · rw [upd_n _ _ c, upd_n _ _ (by omega)]; exact l5 v p hv hp
theorem LR_h {p9 : Nat} {w : Int32} (hL : LR M z n d e) (hn : n ≤ 4) (hp9 : p9 < 4) : LR (mI M 139 p9 w) (upd z (50 + p9) w) n d e := by
  obtain ⟨l1, l2, l3, l4, l5, l6⟩ := hL
  refine ⟨by rw [mI_ne _ (by decide)]; exact l1, by rw [mI_ne _ (by decide)]; exact l2, fun v hv => by rw [mI_ne _ (by decide), upd_n _ _ (by omega)]; exact l3 v hv, fun p q hp hq => by rw [mI_ne _ (by decide)]; exact l4 p q hp hq, fun v p hv hp => by rw [mI_ne _ (by decide), upd_n _ _ (by omega)]; exact l5 v p hv hp, fun p hp => ?_⟩
  rw [mI_eq]
  by_cases c : p = p9
  · rw [c, upd_e, upd_e]
  · rw [upd_n _ _ c, upd_n _ _ (by omega)]; exact l6 p hp
end AR
theorem wit_a {m : Nat} (hm : m < 19) : wit (nI m - nI 9) (-9) (nI 9) = true := by
  have h : ∀ m : Fin 19, wit (nI m.val - nI 9) (-9) (nI 9) = true := by decide +kernel
  exact h ⟨m, hm⟩
theorem wit_b {m : Nat} (hm : m < 3) : wit (nI m - nI 1) (-9) (nI 9) = true := by
  have h : ∀ m : Fin 3, wit (nI m.val - nI 1) (-9) (nI 9) = true := by decide +kernel
  exact h ⟨m, hm⟩
theorem gq_gm {z : Nat → Int32} {n d : Nat} {e : Nat → Nat → Bool} (h : gq z n d e) : gm z n := gk_gm h.2.2.1.2 (eb_gk h.2.2.1.2 h.2.2.2.2.1)
theorem em9_54 {z : Nat → Int32} {a b : Nat} (ha : a ≤ 8) : emR z a b 54 = z 54 := by unfold emR; rw [if_neg (by omega), if_neg (by omega), if_neg (by omega), if_neg (by omega)]
theorem cpl9_54 {z : Nat → Int32} {n : Nat} (hn : n ≤ 8) : cpl z n n 54 = z 54 := by unfold cpl; rw [if_neg (by omega)]
theorem cpE_ne {e : Nat → Nat → Bool} {p q : Nat} (h : p ≠ q) : cpE e p q = !e p q := by unfold cpE; rw [decide_eq_false h, Bool.not_false, Bool.and_true]
theorem mn6_1 {s : Nat} (h : s < 6) : mn6 s = s + 1 := by unfold mn6; split <;> omega
/-- while a vertex is taken away: the rows have moved up to u and J -/
def RMI (M M1 M3 : Mm) (a u J : Nat) : Prop := (∀ i, i ≠ 136 → i ≠ 137 → i ≠ 138 → M3.1 i = M1.1 i) ∧ shA (M.1 136) (M3.1 136) a u 1 ∧ shA (M.1 138) (M3.1 138) (4 * a) J 4 ∧ shA (M.1 137) (M3.1 137) (4 * a) J 4
theorem rm_0 {M M1 : Mm} {a : Nat} (h : ∀ i, i ≠ 135 → M1.1 i = M.1 i) : RMI M M1 M1 a a (4 * a) := ⟨fun _ _ _ _ => rfl, by rw [h 136 (by decide)]; exact sh_0 _ _ _, by rw [h 138 (by decide)]; exact sh_0 _ _ _, by rw [h 137 (by decide)]; exact sh_0 _ _ _⟩
theorem rm_1 {M M1 M3 : Mm} {a v : Nat} (h : RMI M M1 M3 a v (4 * v)) (ha : a ≤ v) : RMI M M1 (mI M3 136 v (M3.1 136 (v + 1))) a (v + 1) (4 * v + 0) := ⟨fun i h1 h2 h3 => by rw [mI_ne _ h1]; exact h.1 i h1 h2 h3, by rw [mI_eq]; exact sh_s h.2.1 ha (by decide) rfl, by rw [mI_ne _ (by decide)]; exact h.2.2.1, by rw [mI_ne _ (by decide)]; exact h.2.2.2⟩
theorem rm_2 {M M1 M4 : Mm} {a u v k : Nat} (h : RMI M M1 M4 a u (4 * v + k)) (ha : a ≤ v) : RMI M M1 (mI (mI M4 138 (4 * v + k) (M4.1 138 (4 * v + 4 + k))) 137 (4 * v + k) (M4.1 137 (4 * v + 4 + k))) a u (4 * v + (k + 1)) := ⟨fun i h1 h2 h3 => by rw [mI_ne _ h2, mI_ne _ h3]; exact h.1 i h1 h2 h3, by rw [mI_ne _ (by decide), mI_ne _ (by decide)]; exact h.2.1, by rw [mI_ne _ (by decide), mI_eq]; exact sh_s h.2.2.1 (by omega) (by decide) (congrArg _ (by omega)), by rw [mI_eq, mI_ne _ (by decide)]; exact sh_s h.2.2.2 (by omega) (by decide) (congrArg _ (by omega))⟩
theorem rm_3 {M M1 M4 : Mm} {a v : Nat} (h : RMI M M1 M4 a (v + 1) (4 * v + 4)) : RMI M M1 M4 a (v + 1) (4 * (v + 1)) := by rw [show 4 * (v + 1) = 4 * v + 4 by omega]; exact h
/-- and then its columns -/
def RMC (M3 M5 : Mm) (a v K : Nat) : Prop := o1 137 M3 M5 ∧ shC (M3.1 137) (M5.1 137) a v K
theorem rc_s {M3 M6 : Mm} {a v K : Nat} (h : RMC M3 M6 a v K) (ha : a ≤ K) (hK : K < 3) : RMC M3 (mI M6 137 (4 * v + K) (M6.1 137 (4 * v + K + 1))) a v (K + 1) := ⟨h.1.I, by rw [mI_eq]; exact sc_s h.2 ha hK rfl⟩
