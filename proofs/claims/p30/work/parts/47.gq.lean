/-! ===== pure: a graph's row stays one (by hand) ===== -/
def xb (x : Int32) (i : Nat) : Bool := x.toBitVec.getLsbD i
/-- the neighbors as a relation -/
def eb (z : Nat → Int32) (n : Nat) (e : Nat → Nat → Bool) : Prop := ∀ v, v < n → ∀ i, i < 32 → xb (z (10 + v)) i = (decide (i < n) && e v i)
def ok9 (x : Int32) : Prop := -9 ≤ x.toInt ∧ x.toInt ≤ 9
theorem ok9_0 : ok9 (nI 0) := by unfold ok9; decide
theorem ok9_1 : ok9 (nI 1) := by unfold ok9; decide
def gq (z : Nat → Int32) (n d : Nat) (e : Nat → Nat → Bool) : Prop := z 0 = nI n ∧ z 1 = nI d ∧ (1 ≤ n ∧ n ≤ 8) ∧ (1 ≤ d ∧ d ≤ 4) ∧ eb z n e ∧ (∀ a b, a < n → b < n → e a b = e b a) ∧ (∀ v, v < n → ∃ k, k ≤ 9 ∧ z (2 + v) = nI k) ∧ (∀ v p, v < n → p < 4 → ok9 (z (18 + 4 * v + p)) ∧ (d ≤ p → z (18 + 4 * v + p) = nI 0)) ∧ ∀ p, p < 4 → ok9 (z (50 + p)) ∧ (d ≤ p → z (50 + p) = nI 0)
theorem xb_inj {x y : Int32} (h : ∀ i, i < 32 → xb x i = xb y i) : x = y := by
  apply Int32.toBitVec_inj.mp
  apply BitVec.eq_of_getLsbD_eq
  intro i hi
  exact h i hi
theorem xb_N {m i : Nat} (hi : i < 32) : xb (nI m) i = m.testBit i := nI_bit hi
theorem xb_tb (x : Int32) (i : Nat) : xb x i = x.toBitVec.toNat.testBit i := rfl
theorem x_nI (x : Int32) : x = nI x.toBitVec.toNat := by
  apply Int32.toBitVec_inj.mp
  show x.toBitVec = BitVec.ofNat 32 x.toBitVec.toNat
  rw [BitVec.ofNat_toNat, BitVec.setWidth_eq]
theorem eb_gk {z : Nat → Int32} {n : Nat} {e : Nat → Nat → Bool} (hn : n ≤ 8) (h : eb z n e) : gk z n (fun v => (z (10 + v)).toBitVec.toNat) := fun v hv => by
  refine ⟨Nat.lt_pow_two_of_testBit _ (fun i hi => ?_), x_nI _⟩
  rcases Nat.lt_or_ge i 32 with q | q
  · rw [← xb_tb, h v hv i q]; simp [show ¬ i < n by omega]
  · exact Nat.testBit_lt_two_pow (Nat.lt_of_lt_of_le (z (10 + v)).toBitVec.isLt (Nat.pow_le_pow_right (by decide) q))
theorem gk_eb {z : Nat → Int32} {n : Nat} {mk : Nat → Nat} (h : gk z n mk) : eb z n (fun v i => (mk v).testBit i) := fun v hv i hi => by
  rw [(h v hv).2, xb_N hi]
  by_cases q : i < n
  · simp [q]
  · rw [tb_lt (h v hv).1 (by omega)]; simp [q]
theorem eb_bt {z : Nat → Int32} {n a b : Nat} {e : Nat → Nat → Bool} (hn : n ≤ 8) (h : eb z n e) (ha : a < n) (hb : b < n) : bt (z (10 + a)) b = e a b := by
  have h1 := eb_gk hn h a ha
  rw [h1.2, bt_tb (n2_256 hn h1.1) (by omega), ← xb_tb, h a ha b (by omega)]
  simp [hb]
theorem gz_gq {z : Nat → Int32} {n d : Nat} (h : gz z n d) : ∃ e, gq z n d e := by
  obtain ⟨h0, h1, h2, h3, ⟨mk, h4⟩, h5, h6, h7, h8, h9, h10⟩ := h
  refine ⟨_, h0, h1, h2, h3, gk_eb h4, fun a b ha hb => ?_, fun v hv => ⟨_, (h6 v hv).2, (h6 v hv).1⟩, fun v p hv hp => ⟨h7 v hv p hp, fun q => h9 v p hv q hp⟩, fun p hp => ⟨h8 p hp, fun q => h10 p q hp⟩⟩
  rw [← eb_bt h2.2 (gk_eb h4) ha hb, ← eb_bt h2.2 (gk_eb h4) hb ha]; exact h5 a b ha hb
theorem gw_mk {z : Nat → Int32} {n : Nat} (h : ∀ v, v < n → ∃ k, k ≤ 9 ∧ z (2 + v) = nI k) : gw z n (wtz z) := fun v hv => by
  obtain ⟨k, hk, e⟩ := h v hv
  unfold wtz
  rw [e, nI_toInt (by omega)]
  exact ⟨rfl, hk⟩
theorem gq_gz {z : Nat → Int32} {n d : Nat} {e : Nat → Nat → Bool} (h : gq z n d e) : gz z n d := by
  obtain ⟨h0, h1, h2, h3, h4, h5, h6, h7, h8⟩ := h
  exact ⟨h0, h1, h2, h3, ⟨_, eb_gk h2.2 h4⟩, fun a b ha hb => by rw [eb_bt h2.2 h4 ha hb, eb_bt h2.2 h4 hb ha]; exact h5 a b ha hb, gw_mk h6, fun v hv p hp => (h7 v p hv hp).1, fun p hp => (h8 p hp).1, fun v p hv hp hq => (h7 v p hv hq).2 hp, fun p hp hq => (h8 p hq).2 hp⟩
theorem ok9_of {x : Int32} (h : wit x (-9) (nI 9) = true) : ok9 x := by
  obtain ⟨h1, h2⟩ := wit_1.mp h
  have h1 := Int32.not_lt.mp h1
  have h2 := Int32.not_lt.mp h2
  rw [Int32.le_iff_toInt_le] at h1 h2
  exact ⟨h1, h2⟩
theorem ok9_wit {x : Int32} (h : ok9 x) : wit x (-9) (nI 9) = true := by
  rw [wit_1, Int32.not_lt, Int32.not_lt, Int32.le_iff_toInt_le, Int32.le_iff_toInt_le]
  exact h
/-- begun anew -/
theorem gq_em {z : Nat → Int32} {a b : Nat} (ha1 : 1 ≤ a) (ha : a ≤ 8) (hb1 : 1 ≤ b) (hb : b ≤ 4) : gq (emR z a b) a b (fun _ _ => false) := by
  refine ⟨rfl, rfl, ⟨ha1, ha⟩, ⟨hb1, hb⟩, fun v hv i hi => ?_, fun _ _ _ _ => rfl, fun v hv => ⟨1, by decide, ?_⟩, fun v p hv hp => ?_, fun p hp => ?_⟩
  · have : emR z a b (10 + v) = nI 0 := by unfold emR; rw [if_neg (by omega), if_neg (by omega), if_neg (by omega), if_pos (by omega)]
    rw [this, xb_N hi]; simp
  · unfold emR; rw [if_neg (by omega), if_neg (by omega), if_pos (by omega)]
  · have : emR z a b (18 + 4 * v + p) = nI 0 := by unfold emR; rw [if_neg (by omega), if_neg (by omega), if_neg (by omega), if_pos (by omega)]
    rw [this]; exact ⟨ok9_0, fun _ => rfl⟩
  · have : emR z a b (50 + p) = nI 0 := by unfold emR; rw [if_neg (by omega), if_neg (by omega), if_neg (by omega), if_pos (by omega)]
    rw [this]; exact ⟨ok9_0, fun _ => rfl⟩
theorem xb_or {x y : Int32} {i : Nat} : xb (x ||| y) i = (xb x i || xb y i) := by unfold xb; rw [Int32.toBitVec_or, BitVec.getLsbD_or]
theorem xb_an {x y : Int32} {i : Nat} : xb (x &&& y) i = (xb x i && xb y i) := an_bit
theorem xb_nt {x : Int32} {i : Nat} (hi : i < 32) : xb (ntI x) i = !xb x i := nt_bit hi
theorem xb_s1 {b i : Nat} (hb : b < 8) (hi : i < 32) : xb (s1 b) i = decide (b = i) := by rw [s1_p hb, xb_N hi, Nat.testBit_two_pow]
theorem xb_0 {i : Nat} (hi : i < 32) : xb (nI 0) i = false := by rw [xb_N hi]; exact Nat.zero_testBit i
theorem xb_s1m {n i : Nat} (hn : n ≤ 8) (hi : i < 32) : xb (s1 n - nI 1) i = decide (i < n) := by
  have h : ∀ n : Fin 9, s1 n.val - nI 1 = nI (2 ^ n.val - 1) := by decide +kernel
  rw [h ⟨n, by omega⟩, xb_N hi]; exact Nat.testBit_two_pow_sub_one n i
theorem xb_jb {x : Int32} {b i : Nat} {t : Bool} (hb : b < 8) (hi : i < 32) : xb (jb x b t) i = if i = b then t else xb x i := by
  unfold jb
  rw [xb_or, xb_an, xb_nt hi, xb_s1 hb hi]
  by_cases q : i = b
  · subst q; cases t
    · simp [xb_0 hi]
    · simp [xb_s1 hb hi]
  · have : ¬ b = i := fun w => q w.symm
    cases t
    · simp [xb_0 hi, q, this]
    · simp [xb_s1 hb hi, q, this]
/-- two joined, or parted -/
theorem gq_jo {z : Nat → Int32} {n d a b : Nat} {e : Nat → Nat → Bool} {t : Bool} (h : gq z n d e) (ha : a < n) (hb : b < n) (hab : a ≠ b) : gq (joR z a b t) n d (fun v k => if (v = a ∧ k = b) ∨ (v = b ∧ k = a) then t else e v k) := by
  obtain ⟨h0, h1, h2, h3, h4, h5, h6, h7, h8⟩ := h
  have hj : ∀ j, j < 10 ∨ 18 ≤ j → joR z a b t j = z j := fun j hj => by unfold joR; rw [upd_n _ _ (by omega), upd_n _ _ (by omega)]
  refine ⟨by rw [hj 0 (by decide)]; exact h0, by rw [hj 1 (by decide)]; exact h1, h2, h3, fun v hv i hi => ?_, fun x y hx hy => ?_, fun v hv => by rw [hj _ (by omega)]; exact h6 v hv, fun v p hv hp => by rw [hj _ (by omega)]; exact h7 v p hv hp, fun p hp => by rw [hj _ (by omega)]; exact h8 p hp⟩
  · have hv4 := h4 v hv i hi
    show xb (joR z a b t (10 + v)) i = (decide (i < n) && (if (v = a ∧ i = b) ∨ (v = b ∧ i = a) then t else e v i))
    by_cases q1 : v = b
    · subst q1
      have : joR z a v t (10 + v) = jb (z (10 + v)) a t := by unfold joR; rw [upd_e]
      rw [this, xb_jb (by omega) hi, hv4]
      by_cases q2 : i = a
      · subst q2; simp [ha]
      · have h9 : ¬ ((v = a ∧ i = v) ∨ (v = v ∧ i = a)) := by omega
        rw [if_neg q2, if_neg h9]
    · by_cases q3 : v = a
      · subst q3
        have : joR z v b t (10 + v) = jb (z (10 + v)) b t := by unfold joR; rw [upd_n _ _ (by omega), upd_e]
        rw [this, xb_jb (by omega) hi, hv4]
        by_cases q2 : i = b
        · subst q2; simp [hb]
        · have h9 : ¬ ((v = v ∧ i = b) ∨ (v = b ∧ i = v)) := by omega
          rw [if_neg q2, if_neg h9]
      · have : joR z a b t (10 + v) = z (10 + v) := by unfold joR; rw [upd_n _ _ (by omega), upd_n _ _ (by omega)]
        have h9 : ¬ ((v = a ∧ i = b) ∨ (v = b ∧ i = a)) := by omega
        rw [this, hv4, if_neg h9]
  · have := h5 x y hx hy
    show (if (x = a ∧ y = b) ∨ (x = b ∧ y = a) then t else e x y) = (if (y = a ∧ x = b) ∨ (y = b ∧ x = a) then t else e y x)
    by_cases q : (x = a ∧ y = b) ∨ (x = b ∧ y = a)
    · rw [if_pos q, if_pos (by omega)]
    · rw [if_neg q, if_neg (by omega)]; exact this
/-- the complement -/
theorem gq_cp {z : Nat → Int32} {n d : Nat} {e : Nat → Nat → Bool} (h : gq z n d e) : gq (cpl z n n) n d (fun v k => !e v k && !decide (v = k)) := by
  obtain ⟨h0, h1, h2, h3, h4, h5, h6, h7, h8⟩ := h
  have hj : ∀ j, j < 10 ∨ 18 ≤ j → cpl z n n j = z j := fun j hj => by unfold cpl; rw [if_neg (by omega)]
  refine ⟨by rw [hj 0 (by decide)]; exact h0, by rw [hj 1 (by decide)]; exact h1, h2, h3, fun v hv i hi => ?_, fun x y hx hy => ?_, fun v hv => by rw [hj _ (by omega)]; exact h6 v hv, fun v p hv hp => by rw [hj _ (by omega)]; exact h7 v p hv hp, fun p hp => by rw [hj _ (by omega)]; exact h8 p hp⟩
  · have : cpl z n n (10 + v) = cv n v (z (10 + v)) := by unfold cpl; rw [if_pos (by omega)]; congr 1; omega
    rw [this]
    unfold cv
    rw [xb_an, xb_an, xb_s1m h2.2 hi, xb_nt hi, xb_nt hi, xb_s1 (by omega) hi, h4 v hv i hi]
    by_cases q : i < n <;> simp [q]
  · show (!e x y && !decide (x = y)) = (!e y x && !decide (y = x))
    rw [h5 x y hx hy]
    by_cases q : x = y
    · subst q; rfl
    · have : ¬ y = x := fun w => q w.symm
      simp [q, this]
theorem wo_b {x : Int32} {m v i : Nat} (e : x = nI m) (hm : m < 256) (hv : v < 8) (hi : i < 32) : xb (wo x v) i = if i < v then xb x i else (decide (i < 8) && m.testBit (i + 1)) := by
  have h : ∀ m : Fin 256, ∀ v : Fin 8, wo (nI m.val) v.val = nI ((m.val % 2 ^ v.val) + 2 ^ v.val * (m.val / 2 ^ (v.val + 1))) := by decide +kernel
  have h2 : ∀ m : Fin 256, ∀ v : Fin 8, ∀ i : Fin 9, ((m.val % 2 ^ v.val) + 2 ^ v.val * (m.val / 2 ^ (v.val + 1))).testBit i.val = if i.val < v.val then m.val.testBit i.val else m.val.testBit (i.val + 1) := by decide +kernel
  have h3 : ∀ m : Fin 256, ∀ v : Fin 8, (m.val % 2 ^ v.val) + 2 ^ v.val * (m.val / 2 ^ (v.val + 1)) < 256 := by decide +kernel
  subst e
  rw [h ⟨m, hm⟩ ⟨v, hv⟩, xb_N hi, xb_N hi]
  by_cases q : i < 9
  · rw [h2 ⟨m, hm⟩ ⟨v, hv⟩ ⟨i, q⟩]
    by_cases q2 : i < v
    · rw [if_pos q2, if_pos q2]
    · rw [if_neg q2, if_neg q2]
      by_cases q3 : i < 8
      · simp [q3]
      · have hq : m.testBit (i + 1) = false := tb_lt (n := 8) hm (by omega)
        simp [q3, hq]
  · rw [tb_lt (n := 8) (h3 ⟨m, hm⟩ ⟨v, hv⟩) (by omega), if_neg (by omega)]; simp [show ¬ i < 8 by omega]
/-- a vertex taken away -/
theorem gq_rm {z : Nat → Int32} {n d v : Nat} {e : Nat → Nat → Bool} (h : gq z n d e) (hv : v < n) (hn2 : 2 ≤ n) : gq (rmR z n v) (n - 1) d (fun a k => e (if a < v then a else a + 1) (if k < v then k else k + 1)) := by
  obtain ⟨h0, h1, h2, h3, h4, h5, h6, h7, h8⟩ := h
  have hj : ∀ j, (j < n - 1 + 2 ∧ 2 ≤ j) ∨ (18 ≤ j ∧ j < 18 + 4 * (n - 1)) ∨ 50 ≤ j ∨ j = 1 ∨ j = 0 → rmR z n v j = rmA z n v (n - 1) j := fun j hj => by
    unfold rmR cbA rmC; rw [if_neg (by omega), if_neg (by omega)]
  refine ⟨?_, ?_, by omega, h3, fun a ha i hi => ?_, fun a b ha hb => ?_, fun a ha => ?_, fun a p ha hp => ?_, fun p hp => ?_⟩
  · rw [hj 0 (by omega)]; rfl
  · rw [hj 1 (by omega)]; unfold rmA; rw [if_neg (by omega), if_neg (by omega), if_neg (by omega)]; exact h1
  · have e1 : rmR z n v (10 + a) = wo (z (10 + (if a < v then a else a + 1))) v := by
      unfold rmR cbA; rw [if_neg (by omega)]
      unfold rmC; rw [if_pos (by omega)]
      unfold rmA
      by_cases q : a < v
      · rw [if_neg (by omega), if_neg (by omega), if_neg (by omega), if_pos q]
      · rw [if_neg (by omega), if_pos (by omega), if_neg q]; rfl
    have hw : (if a < v then a else a + 1) < n := by split <;> omega
    show xb (rmR z n v (10 + a)) i = (decide (i < n - 1) && e (if a < v then a else a + 1) (if i < v then i else i + 1))
    rw [e1]
    generalize (if a < v then a else a + 1) = w at hw ⊢
    have hk : (z (10 + w)).toBitVec.toNat < 2 ^ n ∧ z (10 + w) = nI (z (10 + w)).toBitVec.toNat := eb_gk h2.2 h4 w hw
    rw [wo_b hk.2 (n2_256 h2.2 hk.1) (by omega) hi, h4 w hw i hi]
    by_cases q : i < v
    · rw [if_pos q, if_pos q]; simp [show i < n by omega, show i < n - 1 by omega]
    · rw [if_neg q, if_neg q, ← xb_tb]
      by_cases q2 : i < 8
      · rw [h4 w hw (i + 1) (by omega)]
        by_cases q3 : i < n - 1
        · simp [q2, q3, show i + 1 < n by omega]
        · simp [q2, q3, show ¬ i + 1 < n by omega]
      · simp [q2, show ¬ i < n - 1 by omega]
  · exact h5 _ _ (by split <;> omega) (by split <;> omega)
  · rw [hj _ (by omega)]
    unfold rmA
    by_cases q : a < v
    · rw [if_neg (by omega), if_neg (by omega), if_neg (by omega)]; exact h6 a (by omega)
    · rw [if_neg (by omega), if_pos (by omega)]; exact h6 (a + 1) (by omega)
  · rw [hj _ (by omega)]
    unfold rmA
    by_cases q : a < v
    · rw [if_neg (by omega), if_neg (by omega), if_neg (by omega)]; exact h7 a p (by omega) hp
    · rw [if_neg (by omega), if_neg (by omega), if_pos (by omega), show 18 + 4 * a + p + 4 = 18 + 4 * (a + 1) + p by omega]; exact h7 (a + 1) p (by omega) hp
  · rw [hj _ (by omega)]
    unfold rmA; rw [if_neg (by omega), if_neg (by omega), if_neg (by omega)]; exact h8 p hp
/-- one number changed -/
theorem gq_w {z : Nat → Int32} {n d v w : Nat} {e : Nat → Nat → Bool} (h : gq z n d e) (hv : v < n) (hw : w ≤ 9) : gq (upd z (2 + v) (nI w)) n d e := by
  obtain ⟨h0, h1, h2, h3, h4, h5, h6, h7, h8⟩ := h
  have hj : ∀ j, j ≠ 2 + v → upd z (2 + v) (nI w) j = z j := fun j hj => upd_n _ _ hj
  refine ⟨by rw [hj 0 (by omega)]; exact h0, by rw [hj 1 (by omega)]; exact h1, h2, h3, fun v hv i hi => by rw [hj _ (by omega)]; exact h4 v hv i hi, h5, fun u hu => ?_, fun v p hv hp => by rw [hj _ (by omega)]; exact h7 v p hv hp, fun p hp => by rw [hj _ (by omega)]; exact h8 p hp⟩
  by_cases q : u = v
  · subst q; rw [upd_e]; exact ⟨w, hw, rfl⟩
  · rw [hj _ (by omega)]; exact h6 u hu
theorem gq_l {z : Nat → Int32} {n d v p : Nat} {w : Int32} {e : Nat → Nat → Bool} (h : gq z n d e) (hv : v < n) (hp : p < d) (hw : ok9 w) : gq (upd z (18 + 4 * v + p) w) n d e := by
  obtain ⟨h0, h1, h2, h3, h4, h5, h6, h7, h8⟩ := h
  have hj : ∀ j, j ≠ 18 + 4 * v + p → upd z (18 + 4 * v + p) w j = z j := fun j hj => upd_n _ _ hj
  refine ⟨by rw [hj 0 (by omega)]; exact h0, by rw [hj 1 (by omega)]; exact h1, h2, h3, fun v hv i hi => by rw [hj _ (by omega)]; exact h4 v hv i hi, h5, fun u hu => by rw [hj _ (by omega)]; exact h6 u hu, fun u q hu hq => ?_, fun p hp => by rw [hj _ (by omega)]; exact h8 p hp⟩
  by_cases q1 : u = v ∧ q = p
  · obtain ⟨rfl, rfl⟩ := q1; rw [upd_e]; exact ⟨hw, fun w => absurd w (by omega)⟩
  · rw [hj _ (by omega)]; exact h7 u q hu hq
theorem gq_h {z : Nat → Int32} {n d p : Nat} {w : Int32} {e : Nat → Nat → Bool} (h : gq z n d e) (hp : p < d) (hw : ok9 w) : gq (upd z (50 + p) w) n d e := by
  obtain ⟨h0, h1, h2, h3, h4, h5, h6, h7, h8⟩ := h
  have hj : ∀ j, j ≠ 50 + p → upd z (50 + p) w j = z j := fun j hj => upd_n _ _ hj
  refine ⟨by rw [hj 0 (by omega)]; exact h0, by rw [hj 1 (by omega)]; exact h1, h2, h3, fun v hv i hi => by rw [hj _ (by omega)]; exact h4 v hv i hi, h5, fun u hu => by rw [hj _ (by omega)]; exact h6 u hu, fun v p hv hp => by rw [hj _ (by omega)]; exact h7 v p hv hp, fun q hq => ?_⟩
  by_cases q1 : q = p
  · subst q1; rw [upd_e]; exact ⟨hw, fun w => absurd w (by omega)⟩
  · rw [hj _ (by omega)]; exact h8 q hq
/-- other labels, another handle -/
theorem gq_lh {z y : Nat → Int32} {n d : Nat} {e : Nat → Nat → Bool} (h : gq z n d e) (hj : ∀ j, j < 18 → y j = z j) (hl : ∀ v p, v < n → p < 4 → ok9 (y (18 + 4 * v + p)) ∧ (d ≤ p → y (18 + 4 * v + p) = nI 0)) (hh : ∀ p, p < 4 → ok9 (y (50 + p)) ∧ (d ≤ p → y (50 + p) = nI 0)) : gq y n d e := by
  obtain ⟨h0, h1, h2, h3, h4, h5, h6, h7, h8⟩ := h
  exact ⟨by rw [hj 0 (by omega)]; exact h0, by rw [hj 1 (by omega)]; exact h1, h2, h3, fun v hv i hi => by rw [hj _ (by omega)]; exact h4 v hv i hi, h5, fun u hu => by rw [hj _ (by omega)]; exact h6 u hu, hl, hh⟩
theorem gq_rd {z : Nat → Int32} {n d : Nat} {da db : Nat → Nat} : ∀ {J : Nat} {e : Nat → Nat → Bool}, gq z n d e → (∀ j, j < J → da j < db j ∧ db j < n) → ∃ e2, gq (rdR z da db J) n d e2
  | 0, e, h, _ => ⟨e, h⟩
  | J + 1, e, h, ha => by
    obtain ⟨e2, h2⟩ := gq_rd (J := J) h (fun j hj => ha j (by omega))
    have := ha J (by omega)
    exact ⟨_, gq_jo h2 (by omega) this.2 (by omega)⟩
