/-! ===== pure: masks, cliques of class and reference (by hand) ===== -/
theorem i0_bits {a : Int32} : a = 0 ↔ ∀ i, i < 32 → a.toBitVec.getLsbD i = false := by
  constructor
  · rintro rfl i _; exact BitVec.getLsbD_zero
  · intro h
    apply Int32.toBitVec_inj.mp
    apply BitVec.eq_of_getLsbD_eq
    intro i hi
    rw [h i hi]; exact BitVec.getLsbD_zero.symm
theorem nI_bit {m i : Nat} (hi : i < 32) : (nI m).toBitVec.getLsbD i = m.testBit i := by
  show (BitVec.ofNat 32 m).getLsbD i = _
  rw [BitVec.getLsbD_ofNat]; simp [hi]
theorem nt_bit {x : Int32} {i : Nat} (hi : i < 32) : (ntI x).toBitVec.getLsbD i = !x.toBitVec.getLsbD i := by
  unfold ntI
  rw [Int32.toBitVec_xor, BitVec.getLsbD_xor, show (-1 : Int32).toBitVec = BitVec.allOnes 32 from rfl, BitVec.getLsbD_allOnes]
  simp [hi]
theorem an_bit {x y : Int32} {i : Nat} : (x &&& y).toBitVec.getLsbD i = (x.toBitVec.getLsbD i && y.toBitVec.getLsbD i) := by
  rw [Int32.toBitVec_and, BitVec.getLsbD_and]
theorem tb_lt {m n i : Nat} (hm : m < 2 ^ n) (hi : n ≤ i) : m.testBit i = false := Nat.testBit_lt_two_pow (Nat.lt_of_lt_of_le hm (Nat.pow_le_pow_right (by decide) hi))
theorem bt_tb {m k : Nat} (hm : m < 256) (hk : k < 8) : bt (nI m) k = m.testBit k := by
  have h : ∀ m : Fin 256, ∀ k : Fin 8, bt (nI m.val) k.val = m.val.testBit k.val := by decide +kernel
  exact h ⟨m, hm⟩ ⟨k, hk⟩
/-- the one mask lies in the other -/
theorem sb_0 {m w : Nat} (hm : m < 256) : nI m &&& ntI (nI w) = 0 ↔ ∀ k, k < 8 → m.testBit k = true → w.testBit k = true := by
  rw [i0_bits]
  constructor
  · intro h k hk hb
    have := h k (by omega)
    rw [an_bit, nt_bit (by omega), nI_bit (by omega), nI_bit (by omega), hb] at this
    simpa using this
  · intro h i hi
    rw [an_bit, nt_bit hi, nI_bit hi, nI_bit hi]
    by_cases hk : i < 8
    · cases hq : m.testBit i
      · rfl
      · rw [h i hk hq]; rfl
    · rw [tb_lt (n := 8) hm (by omega)]; rfl
theorem sb_1 {m w u : Nat} (hm : m < 256) (hu : u < 8) : (nI m &&& ntI (nI w)) &&& ntI (s1 u) = 0 ↔ ∀ k, k < 8 → m.testBit k = true → k ≠ u → w.testBit k = true := by
  rw [i0_bits, shl1 (by omega)]
  constructor
  · intro h k hk hb hne
    have := h k (by omega)
    rw [an_bit, an_bit, nt_bit (by omega), nt_bit (by omega), nI_bit (by omega), nI_bit (by omega), nI_bit (by omega), hb, Nat.testBit_two_pow] at this
    simpa [hne.symm] using this
  · intro h i hi
    rw [an_bit, an_bit, nt_bit hi, nt_bit hi, nI_bit hi, nI_bit hi, nI_bit hi, Nat.testBit_two_pow]
    by_cases hk : i < 8
    · cases hq : m.testBit i
      · rfl
      · by_cases e : i = u
        · subst e; simp
        · rw [h i hk hq e]; rfl
    · rw [tb_lt (n := 8) hm (by omega)]; rfl
theorem sb_2 {s w : Nat} (hw : w < 256) : nI s &&& nI w = nI w ↔ ∀ k, k < 8 → w.testBit k = true → s.testBit k = true := by
  constructor
  · intro h k hk hb
    have h2 : (nI s &&& nI w).toBitVec.getLsbD k = (nI w).toBitVec.getLsbD k := by rw [h]
    rw [an_bit, nI_bit (by omega), nI_bit (by omega), hb] at h2
    simpa using h2
  · intro h
    apply Int32.toBitVec_inj.mp
    apply BitVec.eq_of_getLsbD_eq
    intro i hi
    rw [an_bit, nI_bit hi, nI_bit hi]
    by_cases hk : i < 8
    · cases hq : w.testBit i
      · simp
      · rw [h i hk hq]; rfl
    · rw [tb_lt (n := 8) hw (by omega)]; simp
theorem sb_le {s w : Nat} (hw : w < 256) (h : ∀ k, k < 8 → w.testBit k = true → s.testBit k = true) : w ≤ s := by
  have e : w &&& s = w := by
    apply Nat.eq_of_testBit_eq
    intro i
    rw [Nat.testBit_and]
    by_cases hk : i < 8
    · cases hq : w.testBit i
      · rfl
      · rw [h i hk hq]; rfl
    · rw [tb_lt (n := 8) hw (by omega)]; rfl
  rw [← e]; exact Nat.and_le_right
/-- the masks of a row are no wider than its vertices -/
def gk (z : Nat → Int32) (n : Nat) (mk : Nat → Nat) : Prop := ∀ v, v < n → mk v < 2 ^ n ∧ z (10 + v) = nI (mk v)
theorem n2_256 {n m : Nat} (hn : n ≤ 8) (h : m < 2 ^ n) : m < 256 := Nat.lt_of_lt_of_le h (p2_le hn)
theorem gk_gm {z : Nat → Int32} {n : Nat} {mk : Nat → Nat} (hn : n ≤ 8) (h : gk z n mk) : gm z n := fun v hv => ⟨mk v, n2_256 hn (h v hv).1, (h v hv).2⟩
/-- the weights of a row -/
def gw (z : Nat → Int32) (n : Nat) (wt : Nat → Nat) : Prop := ∀ v, v < n → z (2 + v) = nI (wt v) ∧ wt v ≤ 9
def wsN (wt : Nat → Nat) (m : Nat) : Nat → Nat
  | 0 => 0
  | v + 1 => wsN wt m v + (if m.testBit v = true then wt v else 0)
theorem wsN_s (wt : Nat → Nat) (m v : Nat) : wsN wt m (v + 1) = wsN wt m v + (if m.testBit v = true then wt v else 0) := rfl
theorem wsN_le {wt : Nat → Nat} {m n : Nat} (hw : ∀ v, v < n → wt v ≤ 9) : ∀ {v : Nat}, v ≤ n → wsN wt m v ≤ 9 * v
  | 0, _ => Nat.le_refl 0
  | v + 1, h => by
    have h1 := wsN_le (m := m) hw (v := v) (by omega)
    have h2 := hw v (by omega)
    rw [wsN_s]; split <;> omega
theorem wsN_cg {wt : Nat → Nat} {m m2 : Nat} : ∀ {v : Nat}, (∀ u, u < v → m.testBit u = m2.testBit u) → wsN wt m v = wsN wt m2 v
  | 0, _ => rfl
  | v + 1, h => by
    rw [wsN_s, wsN_s, wsN_cg (fun u hu => h u (by omega)), h v (by omega)]
theorem wz_N {z : Nat → Int32} {n m : Nat} {wt : Nat → Nat} (hw : gw z n wt) (hm : m < 256) (hn : n ≤ 8) : ∀ {v : Nat}, v ≤ n → wz z v (nI m) = nI (wsN wt m v)
  | 0, _ => rfl
  | v + 1, h => by
    show wz z v (nI m) + (if bt (nI m) v = true then z (2 + v) else nI 0) = _
    rw [wz_N hw hm hn (by omega), bt_tb hm (by omega), (hw v (by omega)).1, wsN_s]
    by_cases q : m.testBit v = true
    · rw [if_pos q, if_pos q, nI_add]
    · rw [if_neg q, if_neg q, ad_0, Nat.add_zero]
/-- a clique among the first v vertices -/
def cqP (mk : Nat → Nat) (m v : Nat) : Prop := ∀ a b, a < b → b < v → m.testBit a = true → m.testBit b = true → (mk b).testBit a = true
theorem tb_hi {v m u : Nat} (hu : u < v) : (2 ^ v + m).testBit u = m.testBit u := Nat.testBit_two_pow_add_gt hu m
theorem tb_top {v m : Nat} (hm : m < 2 ^ v) : (2 ^ v + m).testBit v = true := by rw [Nat.testBit_two_pow_add_eq, Nat.testBit_lt_two_pow hm]; rfl
theorem m1_ne {a : Nat} (h : a < 1000) : ¬ nI a = -1 := fun q => by
  have := congrArg Int32.toInt q
  rw [nI_toInt (by omega)] at this
  rw [show (-1 : Int32).toInt = -1 from rfl] at this
  omega
theorem clW_N {z : Nat → Int32} {n : Nat} {mk wt : Nat → Nat} (hn : n ≤ 8) (hk : gk z n mk) (hw : gw z n wt) : ∀ {v m : Nat}, v ≤ n → m < 2 ^ v → (cqP mk m v ∧ clW z v m = nI (wsN wt m v)) ∨ (¬ cqP mk m v ∧ clW z v m = -1)
  | 0, m, _, _ => Or.inl ⟨fun a b _ hb => absurd hb (Nat.not_lt_zero b), rfl⟩
  | v + 1, m, hv, hm => by
    have hv8 : 2 ^ v ≤ 128 := p2b (by omega)
    rw [Nat.pow_succ] at hm
    by_cases q : m < 2 ^ v
    · rw [clW_lo q]
      have hb : m.testBit v = false := Nat.testBit_lt_two_pow q
      rcases clW_N hn hk hw (v := v) (m := m) (by omega) q with ⟨h1, h2⟩ | ⟨h1, h2⟩
      · refine Or.inl ⟨fun a b hab hb9 ha hbb => ?_, ?_⟩
        · by_cases e : b = v
          · rw [e, hb] at hbb; cases hbb
          · exact h1 a b hab (by omega) ha hbb
        · rw [h2, wsN_s, hb]; rfl
      · exact Or.inr ⟨fun w => h1 (fun a b hab hb9 => w a b hab (by omega)), h2⟩
    · obtain ⟨m', rfl⟩ : ∃ m', m = 2 ^ v + m' := ⟨m - 2 ^ v, by omega⟩
      have hm' : m' < 2 ^ v := by omega
      rw [clW_hi]
      have hsub := sb_0 (m := m') (w := mk v) (by omega)
      rw [(hk v (by omega)).2]
      have hcq : cqP mk (2 ^ v + m') (v + 1) ↔ cqP mk m' v ∧ ∀ k, k < 8 → m'.testBit k = true → (mk v).testBit k = true := by
        constructor
        · intro w
          refine ⟨fun a b hab hb9 ha hbb => w a b hab (by omega) (by rw [tb_hi (by omega)]; exact ha) (by rw [tb_hi hb9]; exact hbb), fun k hk8 hkk => ?_⟩
          by_cases kv : k < v
          · exact w k v kv (by omega) (by rw [tb_hi kv]; exact hkk) (tb_top hm')
          · rw [tb_lt hm' (by omega)] at hkk; cases hkk
        · rintro ⟨w1, w2⟩ a b hab hb9 ha hbb
          by_cases e : b = v
          · subst e; rw [tb_hi hab] at ha; exact w2 a (by omega) ha
          · rw [tb_hi (by omega)] at ha; rw [tb_hi (by omega)] at hbb; exact w1 a b hab (by omega) ha hbb
      rcases clW_N hn hk hw (v := v) (m := m') (by omega) hm' with ⟨h1, h2⟩ | ⟨h1, h2⟩
      · have hl := wsN_le (m := m') (fun u hu => (hw u hu).2) (v := v) (show v ≤ n by omega)
        by_cases hs : ∀ k, k < 8 → m'.testBit k = true → (mk v).testBit k = true
        · refine Or.inl ⟨hcq.mpr ⟨h1, hs⟩, ?_⟩
          rw [h2, decide_eq_false (m1_ne (by omega)), decide_eq_true (hsub.mpr hs), if_pos (by decide), (hw v (by omega)).1, nI_add, wsN_s]
          rw [tb_top hm', if_pos rfl, wsN_cg (m := 2 ^ v + m') (m2 := m') (fun u hu => tb_hi hu)]
        · refine Or.inr ⟨fun w => hs (hcq.mp w).2, ?_⟩
          rw [decide_eq_false (fun w => hs (hsub.mp w)), Bool.and_false, if_neg (by decide)]
      · refine Or.inr ⟨fun w => h1 (hcq.mp w).1, ?_⟩
        rw [h2, decide_eq_true rfl, Bool.not_true, Bool.false_and, if_neg (by decide)]
theorem gs_tb {z : Nat → Int32} {n : Nat} {mk : Nat → Nat} (hn : n ≤ 8) (hk : gk z n mk) (hs : gs z n) {a b : Nat} (ha : a < n) (hb : b < n) : (mk a).testBit b = (mk b).testBit a := by
  have h := hs a b ha hb
  rw [(hk a ha).2, (hk b hb).2, bt_tb (n2_256 hn (hk a ha).1) (by omega), bt_tb (n2_256 hn (hk b hb).1) (by omega)] at h
  exact h
theorem icl_P {z : Nat → Int32} {n m : Nat} {mk : Nat → Nat} (hn : n ≤ 8) (hk : gk z n mk) (hm : m < 256) : ∀ {v : Nat}, v ≤ n → (icl z (nI m) v = true ↔ ∀ u, u < v → m.testBit u = true → ∀ k, k < 8 → m.testBit k = true → k ≠ u → (mk u).testBit k = true)
  | 0, _ => ⟨fun _ u hu => absurd hu (Nat.not_lt_zero u), fun _ => rfl⟩
  | v + 1, hv => by
    have ih := icl_P hn hk hm (v := v) (by omega)
    show (icl z (nI m) v && (!bt (nI m) v || decide ((nI m &&& ntI (z (10 + v))) &&& ntI (s1 v) = 0))) = true ↔ _
    rw [Bool.and_eq_true, ih, bt_tb hm (by omega), (hk v (by omega)).2, Bool.or_eq_true, decide_eq_true_iff, sb_1 hm (by omega)]
    constructor
    · rintro ⟨h1, h2⟩ u hu hb
      by_cases e : u = v
      · subst e
        rcases h2 with h2 | h2
        · rw [hb] at h2; cases h2
        · exact h2
      · exact h1 u (by omega) hb
    · intro h
      refine ⟨fun u hu => h u (by omega), ?_⟩
      cases q : m.testBit v
      · exact Or.inl rfl
      · exact Or.inr (h v (by omega) q)
theorem icl_cq {z : Nat → Int32} {n m : Nat} {mk : Nat → Nat} (hn : n ≤ 8) (hk : gk z n mk) (hs : gs z n) (hm : m < 2 ^ n) : icl z (nI m) n = true ↔ cqP mk m n := by
  rw [icl_P hn hk (n2_256 hn hm) (Nat.le_refl n)]
  constructor
  · intro h a b hab hb9 ha hbb
    exact h b hb9 hbb a (by omega) ha (by omega)
  · intro h u hu hb k hk8 hkk hne
    have hkn : k < n := by
      rcases Nat.lt_or_ge k n with q | q
      · exact q
      · rw [tb_lt hm q] at hkk; cases hkk
    rcases Nat.lt_or_gt_of_ne hne with q | q
    · exact h k u q hu hkk hb
    · rw [gs_tb hn hk hs hu hkn]; exact h u k q hkn hb hkk
/-- the masks' weights as the reference sees them -/
theorem clW_z {z : Nat → Int32} {n m : Nat} {mk wt : Nat → Nat} (hn : n ≤ 8) (hk : gk z n mk) (hw : gw z n wt) (hs : gs z n) (hm : m < 2 ^ n) : clW z n m = if icl z (nI m) n = true then wz z n (nI m) else -1 := by
  rcases clW_N hn hk hw (Nat.le_refl n) hm with ⟨h1, h2⟩ | ⟨h1, h2⟩
  · rw [if_pos ((icl_cq hn hk hs hm).mpr h1), wz_N hw (n2_256 hn hm) hn (Nat.le_refl n), h2]
  · rw [if_neg (fun q => h1 ((icl_cq hn hk hs hm).mp q)), h2]
theorem wz_ge {z : Nat → Int32} {n m : Nat} {wt : Nat → Nat} (hn : n ≤ 8) (hw : gw z n wt) (hm : m < 256) : ∃ k, k ≤ 72 ∧ wz z n (nI m) = nI k := ⟨wsN wt m n, by have := wsN_le (m := m) (fun u hu => (hw u hu).2) (v := n) (Nat.le_refl n); omega, wz_N hw hm hn (Nat.le_refl n)⟩
theorem m1_le {k : Nat} (h : k ≤ 72) : (-1 : Int32) ≤ nI k := by
  rw [Int32.le_iff_toInt_le, nI_toInt (by omega), show (-1 : Int32).toInt = -1 from rfl]; omega
theorem hc_hv {z : Nat → Int32} {n w : Nat} {mk wt : Nat → Nat} (hn : n ≤ 8) (hk : gk z n mk) (hw : gw z n wt) (hs : gs z n) (hwn : w < 2 ^ n) (hcl : icl z (nI w) n = true) : ∀ {s : Nat}, s ≤ 2 ^ n → (s ≤ w → hvS z n (nI w) s = -1 ∧ hcS z n w s = w) ∧ (w < s → hvS z n (nI w) s = nI (hcS z n w s) ∧ icl z (nI (hcS z n w s)) n = true)
  | 0, _ => ⟨fun _ => ⟨rfl, rfl⟩, fun h => absurd h (Nat.not_lt_zero w)⟩
  | s + 1, hsn => by
    have ih := hc_hv hn hk hw hs hwn hcl (s := s) (by omega)
    have hw8 := n2_256 hn hwn
    have hs8 : s < 256 := n2_256 hn (by omega)
    have hsub : (nI s &&& nI w = nI w) ↔ (nI w &&& ntI (nI s) = 0) := (sb_2 hw8).trans (sb_0 hw8).symm
    have hc0 : hcS z n w (s + 1) = if nI s &&& nI w = nI w ∧ ¬ clW z n s ≤ clW z n (hcS z n w s) then s else hcS z n w s := rfl
    have hv0 : hvS z n (nI w) (s + 1) = if hvc z n (nI w) s = true ∧ (hvS z n (nI w) s = -1 ∨ ¬ wz z n (nI s) ≤ wz z n (hvS z n (nI w) s)) then nI s else hvS z n (nI w) s := rfl
    rw [hc0, hv0]
    rcases Nat.lt_trichotomy s w with q | q | q
    · have hno : ¬ (nI s &&& nI w = nI w) := fun h => absurd (sb_le hw8 ((sb_2 hw8).mp h)) (by omega)
      have hno2 : hvc z n (nI w) s = false := by unfold hvc; rw [decide_eq_false (fun h => hno (hsub.mpr h)), Bool.false_and]
      rw [if_neg (by rw [hno2]; exact fun h => absurd h.1 (by decide)), if_neg (fun h => hno h.1)]
      exact ⟨fun _ => ih.1 (by omega), fun h => absurd h (by omega)⟩
    · subst q
      obtain ⟨h1, h2⟩ := ih.1 (Nat.le_refl s)
      have hyes : nI s &&& nI s = nI s := (sb_2 hw8).mpr (fun k _ h => h)
      have hyc : hvc z n (nI s) s = true := by unfold hvc; rw [decide_eq_true (hsub.mp hyes), hcl]; rfl
      rw [h2, if_pos ⟨hyc, Or.inl h1⟩, if_neg (fun h => h.2 (Int32.le_refl _))]
      exact ⟨fun h => absurd h (by omega), fun _ => ⟨rfl, hcl⟩⟩
    · obtain ⟨h1, h2⟩ := ih.2 q
      have hb := hcS_lt (z := z) hwn (show s ≤ 2 ^ n by omega)
      refine ⟨fun h => absurd h (by omega), fun _ => ?_⟩
      have e1 : clW z n (hcS z n w s) = wz z n (nI (hcS z n w s)) := by rw [clW_z hn hk hw hs hb, if_pos h2]
      have hne : ¬ hvS z n (nI w) s = -1 := by rw [h1]; exact m1_ne (by have := n2_256 hn hb; omega)
      have hcond : (nI s &&& nI w = nI w ∧ ¬ clW z n s ≤ clW z n (hcS z n w s)) ↔ (hvc z n (nI w) s = true ∧ (hvS z n (nI w) s = -1 ∨ ¬ wz z n (nI s) ≤ wz z n (hvS z n (nI w) s))) := by
        rw [e1, h1, clW_z hn hk hw hs (show s < 2 ^ n by omega)]
        unfold hvc
        rw [Bool.and_eq_true, decide_eq_true_iff, hsub]
        constructor
        · rintro ⟨a1, a2⟩
          by_cases c : icl z (nI s) n = true
          · rw [if_pos c] at a2; exact ⟨⟨a1, c⟩, Or.inr a2⟩
          · rw [if_neg c] at a2
            obtain ⟨k, hk72, hkk⟩ := wz_ge (m := hcS z n w s) hn hw (n2_256 hn hb)
            rw [hkk] at a2; exact absurd (m1_le hk72) a2
        · rintro ⟨⟨a1, c⟩, a2⟩
          rw [if_pos c]
          refine ⟨a1, a2.elim (fun w9 => absurd w9 (m1_ne (by have := n2_256 hn hb; omega))) id⟩
      by_cases c : nI s &&& nI w = nI w ∧ ¬ clW z n s ≤ clW z n (hcS z n w s)
      · rw [if_pos (hcond.mp c), if_pos c]
        refine ⟨rfl, ?_⟩
        have := (hcond.mp c).1
        unfold hvc at this
        rw [Bool.and_eq_true] at this; exact this.2
      · rw [if_neg (fun h => c (hcond.mpr h)), if_neg c]; exact ⟨h1, h2⟩
/-- the heaviest clique with w, of several the lowest: the same -/
theorem hc_z {z : Nat → Int32} {n w : Nat} {mk wt : Nat → Nat} (hn : n ≤ 8) (hk : gk z n mk) (hw : gw z n wt) (hs : gs z n) (hwn : w < 2 ^ n) (hcl : icl z (nI w) n = true) : nI (hcS z n w (2 ^ n)) = hvz z n (nI w) ∧ clW z n (hcS z n w (2 ^ n)) = wz z n (hvz z n (nI w)) := by
  have h := (hc_hv hn hk hw hs hwn hcl (Nat.le_refl _)).2 hwn
  refine ⟨h.1.symm, ?_⟩
  rw [clW_z hn hk hw hs (hcS_lt hwn (Nat.le_refl _)), if_pos h.2]
  unfold hvz; rw [h.1]
theorem mc_z {z : Nat → Int32} {n : Nat} {mk wt : Nat → Nat} (hn : n ≤ 8) (hk : gk z n mk) (hw : gw z n wt) (hs : gs z n) : ∀ {s : Nat}, s ≤ 2 ^ n → mcS z n s = mvS z n s
  | 0, _ => rfl
  | s + 1, h => by
    have ih := mc_z hn hk hw hs (s := s) (by omega)
    have hs8 : s < 256 := n2_256 hn (by omega)
    show (if clW z n s = -1 then mcS z n s else if mcS z n s < bcI (nI s) then bcI (nI s) else mcS z n s) = if ¬ on8 (nI s) ≤ mvS z n s ∧ icl z (nI s) n = true then on8 (nI s) else mvS z n s
    rw [ih, bc_on hs8, clW_z hn hk hw hs (show s < 2 ^ n by omega)]
    by_cases c : icl z (nI s) n = true
    · obtain ⟨k, hk72, hkk⟩ := wz_ge (m := s) hn hw hs8
      rw [if_pos c, if_neg (by rw [hkk]; exact m1_ne (by omega))]
      by_cases q : mvS z n s < on8 (nI s)
      · rw [if_pos q, if_pos ⟨fun w => absurd q (Int32.not_lt.mpr w), c⟩]
      · rw [if_neg q, if_neg (fun w => w.1 (Int32.not_lt.mp q))]
    · rw [if_neg c, if_pos rfl, if_neg (fun w => c w.2)]
theorem icl_0 {z : Nat → Int32} {n : Nat} {mk : Nat → Nat} (hn : n ≤ 8) (hk : gk z n mk) : icl z (nI 0) n = true := (icl_P hn hk (by decide) (Nat.le_refl n)).mpr (fun u _ hb => absurd hb (by rw [Nat.zero_testBit]; decide))
theorem icl_1 {z : Nat → Int32} {n v : Nat} {mk : Nat → Nat} (hn : n ≤ 8) (hk : gk z n mk) (hv : v < n) : icl z (nI (2 ^ v)) n = true := by
  have hp := p2b (v := v) (by omega)
  refine (icl_P hn hk (by omega) (Nat.le_refl n)).mpr (fun u _ hb k _ hkk hne => ?_)
  rw [Nat.testBit_two_pow, decide_eq_true_iff] at hb hkk
  exact absurd (hkk.symm.trans hb) hne
