/-! ===== what a state is; ranges of arguments (by hand) ===== -/
theorem wit_1 {x a b : Int32} : wit x a b = true ↔ ¬ x < a ∧ ¬ b < x := by unfold wit; simp
theorem wit_0 {x a b : Int32} : wit x a b = false ↔ x < a ∨ b < x := by
  unfold wit
  by_cases h1 : x < a <;> by_cases h2 : b < x <;> simp [h1, h2]
theorem nI_n0 {a : Nat} (h : a < 2 ^ 31) : ¬ nI a < (0 : Int32) := nI_pos h
/-- a number that is no place below n, to the machine -/
theorem wit_no {x : Int32} {n : Nat} (hn1 : 1 ≤ n) (hn : n < 2 ^ 31) (h : wit x (nI 0) (nI n - nI 1) = false) (h1 : ¬ x < 0) (h2 : x < nI n) : False := by
  rcases wit_0.mp h with q | q
  · exact h1 q
  · rw [pk_sub hn1] at q
    obtain ⟨j, hj, rfl⟩ := nI_of h1
    have a1 := (nI_ltI hj hn).mp h2
    have a2 := (nI_ltI (by omega) hj).mp q
    omega
theorem wit_ex {x : Int32} {n : Nat} (hn1 : 1 ≤ n) (hn : n < 2 ^ 31) (h : wit x (nI 0) (nI n - nI 1) = true) : ∃ a, a < n ∧ x = nI a := by
  obtain ⟨h1, h2⟩ := wit_1.mp h
  rw [pk_sub hn1] at h2
  obtain ⟨j, hj, rfl⟩ := nI_of h1
  refine ⟨j, ?_, rfl⟩
  have a2 : ¬ n - 1 < j := fun w => h2 ((nI_ltI (by omega) hj).mpr w)
  omega
theorem wit_rg {x : Int32} {a b : Nat} (hab : a ≤ b) (hb : b < 2 ^ 31) (h : wit x (nI a) (nI b) = true) : ∃ j, a ≤ j ∧ j ≤ b ∧ x = nI j := by
  obtain ⟨h1, h2⟩ := wit_1.mp h
  have h0 : ¬ x < 0 := fun q => h1 (Int32.lt_of_lt_of_le q (nI_pos' (n := a) (by omega)))
  obtain ⟨j, hj, rfl⟩ := nI_of h0
  refine ⟨j, ?_, ?_, rfl⟩
  · exact Nat.le_of_not_lt (fun w => h1 ((nI_ltI hj (by omega)).mpr w))
  · exact Nat.le_of_not_lt (fun w => h2 ((nI_ltI hb hj).mpr w))
theorem met_mono {l : Launch} {y : MethodName} {ws : List Cond} {rm : Room} {Pc : Array Value → State → Prop} {Qc Qc2 : Array Value → State → Outcome → State → Prop} {mc ms : Nat} {free : Addr → Prop} (h : Met l y ws rm Pc Qc mc ms free) (hq : ∀ a s o t, Qc a s o t → Qc2 a s o t) : Met l y ws rm Pc Qc2 mc ms free := by
  intro p e h1 h2 h3 s m args below h4 h5 h6 h7
  obtain ⟨n, o, x1, x2, x3, q1, q2⟩ := h p e h1 h2 h3 s m args below h4 h5 h6 h7
  exact ⟨n, o, x1, x2, x3, hq _ _ _ _ q1, q2⟩
theorem metV {l : Launch} {y : MethodName} {ws : List Cond} {rm : Room} {Pc : Array Value → State → Prop} {p1 p2 : Mm → Prop} {B : Mm → State → Prop} {A : Nat → Prop} {mc ms : Nat} {free : Addr → Prop} (h : Met l y ws rm Pc (va_Qv p1 B A) mc ms free) (hq : ∀ M, p1 M → p2 M) : Met l y ws rm Pc (va_Qv p2 B A) mc ms free :=
  met_mono h (fun _ _ _ _ ⟨⟨u, h1, h2, h3⟩, h4⟩ => ⟨⟨u, h1, hq u h2, h3⟩, h4⟩)
/-- what a graph is: a row of the reference's, with n vertices and the dimension d -/
def gz (z : Nat → Int32) (n d : Nat) : Prop := z 0 = nI n ∧ z 1 = nI d ∧ (1 ≤ n ∧ n ≤ 8) ∧ (1 ≤ d ∧ d ≤ 4) ∧ (∃ mk, gk z n mk) ∧ gs z n ∧ gw z n (wtz z) ∧ (∀ v, v < n → vb z (18 + 4 * v)) ∧ vb z 50 ∧ (∀ v p, v < n → d ≤ p → p < 4 → z (18 + 4 * v + p) = nI 0) ∧ ∀ p, d ≤ p → p < 4 → z (50 + p) = nI 0
theorem gz_cg {z y : Nat → Int32} {n d : Nat} (h : gz z n d) (he : ∀ j, j < 54 → y j = z j) : gz y n d := by
  obtain ⟨h0, h1, h2, h3, ⟨mk, h4⟩, h5, h6, h7, h8, h9, h10⟩ := h
  refine ⟨by rw [he 0 (by decide)]; exact h0, by rw [he 1 (by decide)]; exact h1, h2, h3, ⟨mk, fun v hv => ?_⟩, fun a b ha hb => ?_, fun v hv => ?_, fun v hv p hp => ?_, fun p hp => ?_, fun v p hv hp hq => ?_, fun p hp hq => ?_⟩
  · rw [he _ (by omega)]; exact h4 v hv
  · rw [he _ (by omega), he _ (by omega)]; exact h5 a b ha hb
  · have := h6 v hv
    unfold wtz at this ⊢
    rw [he _ (by omega)]; exact this
  · rw [he _ (by omega)]; exact h7 v hv p hp
  · rw [he _ (by omega)]; exact h8 p hp
  · rw [he _ (by omega)]; exact h9 v p hv hp hq
  · rw [he _ (by omega)]; exact h10 p hp hq
theorem gv_cg {M : Mm} {g gi : Nat} {z y : Nat → Int32} {n d : Nat} (h : gv M g gi z n d) (hn : n ≤ 8) (he : ∀ j, j < 54 → y j = z j) : gv M g gi y n d := by
  obtain ⟨g1, g2, g3, g4, g5, g6⟩ := h
  refine ⟨g1, g2, fun v hv => ?_, fun v hv => ?_, fun v p hv hp => ?_, fun p hp => ?_⟩
  · rw [he _ (by omega)]; exact g3 v hv
  · rw [he _ (by omega)]; exact g4 v hv
  · rw [he _ (by omega)]; exact g5 v p hv hp
  · rw [he _ (by omega)]; exact g6 p hp
def VG (M : Mm) (g : Nat) (z : Nat → Int32) : Prop := ∃ n d, gz z n d ∧ gv M g (gH g) z n d
theorem VG.k {M M2 : Mm} {g : Nat} {z y : Nat → Int32} (h : VG M g z) (hk : ∀ i, 13 * g ≤ i ∧ i < 13 * g + 13 → M2.1 i = M.1 i) (he : ∀ j, j < 54 → y j = z j) : VG M2 g y := by
  obtain ⟨n, d, h1, h2⟩ := h
  exact ⟨n, d, gz_cg h1 he, gv_cg (gv_k h2 h1.2.2.1.2 (fun i hi => hk i (by simp only [gH] at hi; omega))) h1.2.2.1.2 he⟩
/-- the room of the ring that holds the j-th of s saved states -/
def rg (lt s j : Nat) : Nat := (lt + 7 - s + j) % 6
/-- the saved states -/
def KH (M : Mm) (h : Nat → Nat → Int32) (s lt : Nat) : Prop := M.1 120 2 = nI lt ∧ lt < 6 ∧ M.1 120 3 = nI s ∧ s ≤ 6 ∧ ∀ j, j < s → VG M (3 + rg lt s j) (h j) ∧ M.1 122 (rg lt s j) = h j 54
/-- the snapshots -/
def KS (M : Mm) (q : Nat → Nat → Int32) (tk : Nat → Int32) : Prop := ∀ k, k < 2 → M.1 119 k = tk k ∧ (tk k = nI 0 ∨ tk k = nI 1 ∧ VG M (1 + k) (q k))
/-- the text -/
def KT (M : Mm) (ct : Nat → Nat) (len : Nat) : Prop := M.1 123 1 = nI len ∧ len ≤ 60 ∧ ∀ k, k < len → M.1 124 k = nI (ct k) ∧ 33 ≤ ct k ∧ ct k ≤ 126
/-- class and reference hold the same state -/
def RR (M : Mm) : Prop := ∃ s lt len ct, VG M 0 (M.1 136) ∧ M.1 117 9 = M.1 136 54 ∧ KS M (fun k p => M.1 138 (55 * k + p)) (M.1 139) ∧ KH M (fun j p => M.1 137 (55 * j + p)) s lt ∧ KT M ct len ∧ M.1 135 1 = nI s ∧ M.1 135 5 = nI len ∧ ∀ k, k < len → M.1 140 k = nI (ct k)
theorem KS.k {M M2 : Mm} {q q2 : Nat → Nat → Int32} {tk tk2 : Nat → Int32} (h : KS M q tk) (h1 : ∀ i, 13 ≤ i → i < 39 → M2.1 i = M.1 i) (h2 : ∀ k, k < 2 → M2.1 119 k = M.1 119 k) (ht : ∀ k, k < 2 → tk2 k = tk k) (hq : ∀ k j, k < 2 → j < 54 → q2 k j = q k j) : KS M2 q2 tk2 := fun k hk => by
  rw [h2 k hk, ht k hk]
  exact ⟨(h k hk).1, (h k hk).2.imp id (fun w => ⟨w.1, w.2.k (fun i hi => h1 i (by omega) (by omega)) (fun j hj => hq k j hk hj)⟩)⟩
theorem KH.k {M M2 : Mm} {h h2 : Nat → Nat → Int32} {s lt : Nat} (H : KH M h s lt) (h1 : ∀ i, 39 ≤ i → i < 117 → M2.1 i = M.1 i) (h3 : M2.1 120 = M.1 120) (h4 : M2.1 122 = M.1 122) (hq : ∀ k j, k < s → j < 55 → h2 k j = h k j) : KH M2 h2 s lt := by
  obtain ⟨a1, a2, a3, a4, a5⟩ := H
  refine ⟨by rw [h3]; exact a1, a2, by rw [h3]; exact a3, a4, fun j hj => ⟨(a5 j hj).1.k (fun i hi => h1 i (by omega) (by have : rg lt s j < 6 := Nat.mod_lt _ (by decide); omega)) (fun q hq9 => hq j q hj (by omega)), ?_⟩⟩
  rw [h4, (a5 j hj).2, hq j 54 hj (by decide)]
theorem KT.k {M M2 : Mm} {ct : Nat → Nat} {len : Nat} (h : KT M ct len) (h1 : M2.1 123 = M.1 123) (h2 : M2.1 124 = M.1 124) : KT M2 ct len := by
  unfold KT; rw [h1, h2]; exact h
/-- one more saved state -/
def shH (h : Nat → Nat → Int32) (z : Nat → Int32) (s : Nat) : Nat → Nat → Int32 := fun j => if j = svN s then z else if s = 6 then h (j + 1) else h j
theorem mn6_sv {s : Nat} (h : s ≤ 6) : mn6 s = svN s + 1 := by unfold mn6 svN; split <;> split <;> omega
theorem KH.save {M M2 : Mm} {h : Nat → Nat → Int32} {z : Nat → Int32} {n d s lt : Nat} {pm : Int32} (H : KH M h s lt) (hz : gz z n d) (hp : pm = z 54) (hs : svP M M2 z n d lt s pm) : KH M2 (shH h z s) (mn6 s) (nx6 lt) := by
  obtain ⟨a1, a2, a3, a4, a5⟩ := H
  obtain ⟨b1, b2, b3, b4, b5, b6, b7⟩ := hs
  have hx := nx6_lt a2
  refine ⟨b2, hx, b3, by unfold mn6; split <;> omega, fun j hj => ?_⟩
  have hm := mn6_sv a4
  by_cases e : j = svN s
  · have hr : rg (nx6 lt) (mn6 s) j = nx6 lt := by
      unfold rg
      rw [hm, e]
      have : svN s ≤ 5 := by unfold svN; split <;> omega
      omega
    rw [hr]
    have h9 : shH h z s j = z := if_pos e
    rw [h9]
    exact ⟨⟨n, d, hz, b1⟩, b4.trans hp⟩
  · have hj5 : j < svN s := by omega
    have h9 : shH h z s j = h (if s = 6 then j + 1 else j) := by
      unfold shH; rw [if_neg e]; split <;> rfl
    have hr : rg (nx6 lt) (mn6 s) j = rg lt s (if s = 6 then j + 1 else j) ∧ rg lt s (if s = 6 then j + 1 else j) ≠ nx6 lt ∧ (if s = 6 then j + 1 else j) < s := by
      unfold rg nx6 mn6
      unfold svN at hj5
      by_cases c1 : s = 6
      · have c2 : ¬ s + 1 < 6 := by omega
        simp only [if_pos c1] at hj5 ⊢
        by_cases c3 : lt + 1 < 6
        · simp only [if_neg c2, if_pos c3]; refine ⟨by omega, by omega, by omega⟩
        · simp only [if_neg c2, if_neg c3]; refine ⟨by omega, by omega, by omega⟩
      · simp only [if_neg c1] at hj5 ⊢
        by_cases c2 : s + 1 < 6
        · by_cases c3 : lt + 1 < 6
          · simp only [if_pos c2, if_pos c3]; refine ⟨by omega, by omega, by omega⟩
          · simp only [if_pos c2, if_neg c3]; refine ⟨by omega, by omega, by omega⟩
        · by_cases c3 : lt + 1 < 6
          · simp only [if_neg c2, if_pos c3]; refine ⟨by omega, by omega, by omega⟩
          · simp only [if_neg c2, if_neg c3]; refine ⟨by omega, by omega, by omega⟩
    rw [hr.1, h9]
    have h5 := a5 _ hr.2.2
    have hlt : rg lt s (if s = 6 then j + 1 else j) < 6 := Nat.mod_lt _ (by decide)
    exact ⟨h5.1.k (fun i hi => b6 i (by omega) (by omega) (by omega)) (fun _ _ => rfl), by rw [b5 _ hr.2.1]; exact h5.2⟩
