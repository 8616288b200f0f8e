/-! ===== the law's method cliques (written by wip/p30/gen/lm3.py) ===== -/
/-- nothing but what looks leave, and the row of cliques, has changed -/
def lkW (M M2 : Mm) : Prop := ∀ i, ¬ (125 ≤ i ∧ i ≤ 134) → i ≠ 140 → M2.1 i = M.1 i ∧ M2.2 i = M.2 i
theorem lkW.tr {M M1 M2 : Mm} (h : lkW M M1) (h2 : lkP M1 M2) : lkW M M2 := fun i h3 h4 => ⟨(h2 i h3).1.trans (h i h3 h4).1, (h2 i h3).2.trans (h i h3 h4).2⟩
theorem lkW.o {M M1 : Mm} (h : o1 140 M M1) : lkW M M1 := fun i _ h4 => ⟨h.1 i h4, by rw [h.2]⟩
/-- the greatest weight so far of a clique with v -/
def wiS (z : Nat → Int32) (n v k : Nat) : Int32 := if k ≤ 2 ^ v then nI 0 else clW z n (hcS z n (2 ^ v) k)
/-- how many of the first v bits there are -/
def cbN (m : Nat) : Nat → Nat
  | 0 => 0
  | v + 1 => cbN m v + if m.testBit v = true then 1 else 0
theorem cb_on {n m : Nat} (hn : n ≤ 4) (hm : m < 2 ^ n) : bcI (nI m) = nI (cbN m n) := by
  have h : ∀ n : Fin 5, ∀ m : Fin 16, m.val < 2 ^ n.val → bcI (nI m.val) = nI (cbN m.val n.val) := by decide +kernel
  have h2 : m < 16 := Nat.lt_of_lt_of_le hm (Nat.pow_le_pow_right (by decide) hn : 2 ^ n ≤ 2 ^ 4)
  exact h ⟨n, by omega⟩ ⟨m, h2⟩ hm
theorem cb_le (m : Nat) : ∀ v, cbN m v ≤ v
  | 0 => Nat.le_refl 0
  | v + 1 => by
    have := cb_le m v
    unfold cbN
    split <;> omega
theorem ws_y {wt : Nat → Nat} {m v : Nat} (h : m.testBit v = true) : wsN wt m (v + 1) = wsN wt m v + wt v := by rw [wsN_s, if_pos h]
theorem ws_n {wt : Nat → Nat} {m v : Nat} (h : m.testBit v = false) : wsN wt m (v + 1) = wsN wt m v := by rw [wsN_s, if_neg (by rw [h]; decide)]; rfl
theorem cb_y {m v : Nat} (h : m.testBit v = true) : cbN m (v + 1) = cbN m v + 1 := by rw [cbN, if_pos h]
theorem cb_n {m v : Nat} (h : m.testBit v = false) : cbN m (v + 1) = cbN m v := by rw [cbN, if_neg (by rw [h]; decide)]; rfl
theorem cw_0 (z : Nat → Int32) : ∀ n, clW z n 0 = nI 0
  | 0 => rfl
  | v + 1 => (clW_lo (Nat.two_pow_pos v)).trans (cw_0 z v)
section CW9
variable {z : Nat → Int32} {n : Nat} {mk wt : Nat → Nat} {m : Nat}
theorem cw_y (hn : n ≤ 8) (hk : gk z n mk) (hw : gw z n wt) (hm : m < 2 ^ n) (h : (!decide (clW z n m = -1)) = true) : clW z n m = nI (wsN wt m n) := by
  rcases clW_N hn hk hw (Nat.le_refl n) hm with ⟨-, h2⟩ | ⟨-, h2⟩
  · exact h2
  · rw [h2] at h; exact absurd h (by decide)
theorem cw_n (h : (!decide (clW z n m = -1)) = false) : clW z n m = -1 := by
  by_cases q : clW z n m = -1
  · exact q
  · rw [decide_eq_false q] at h; exact absurd h (by decide)
theorem cw_ge (hn : n ≤ 8) (hk : gk z n mk) (hw : gw z n wt) (hm : m < 2 ^ n) : (-1 : Int32) ≤ clW z n m := by
  rcases clW_N hn hk hw (Nat.le_refl n) hm with ⟨-, h2⟩ | ⟨-, h2⟩
  · rw [h2]; exact m1_le (by have := wsN_le (m := m) (fun u hu => (hw u hu).2) (v := n) (Nat.le_refl n); omega)
  · rw [h2]; exact Int32.le_refl _
theorem hc0_y (h : ¬ clW z n m ≤ clW z n (hcS z n 0 m)) : hcS z n 0 (m + 1) = m := by
  rw [hcS, if_pos ⟨(show nI m &&& (0 : Int32) = 0 from Int32.and_zero), h⟩]
theorem hc0_n (h : clW z n m ≤ clW z n (hcS z n 0 m)) : hcS z n 0 (m + 1) = hcS z n 0 m := by
  rw [hcS, if_neg (fun q => q.2 h)]
theorem mc_y (h : ¬ clW z n m = -1) (h2 : ¬ bcI (nI m) ≤ mcS z n m) : mcS z n (m + 1) = bcI (nI m) := by
  rw [mcS, if_neg h, if_pos (Int32.not_le.mp h2)]
theorem mc_n (h2 : bcI (nI m) ≤ mcS z n m) : mcS z n (m + 1) = mcS z n m := by
  rw [mcS, if_neg (Int32.not_lt.mpr h2)]
  split <;> rfl
theorem mc_c (h : clW z n m = -1) : mcS z n (m + 1) = mcS z n m := by rw [mcS, if_pos h]
theorem bit_w {v : Nat} (hv : v < 8) (hm : m < 256) : nI m &&& nI (2 ^ v) = nI (2 ^ v) ↔ m.testBit v = true := by
  have h2 : 2 ^ v < 256 := Nat.lt_of_lt_of_le (Nat.pow_lt_pow_right (by decide) hv : 2 ^ v < 2 ^ 8) (by decide)
  rw [sb_2 h2]
  constructor
  · intro h; exact h v hv (Nat.testBit_two_pow_self)
  · intro h k _ hk2
    rw [Nat.testBit_two_pow] at hk2
    have e := of_decide_eq_true hk2
    rw [← e]; exact h
theorem tb_ge {v : Nat} (h : m.testBit v = true) : 2 ^ v ≤ m := by
  rcases Nat.lt_or_ge m (2 ^ v) with q | q
  · rw [Nat.testBit_lt_two_pow q] at h; exact absurd h (by decide)
  · exact q
theorem hcw_lo {v : Nat} (hv : v < 8) : ∀ {s : Nat}, s ≤ 2 ^ v + 1 → hcS z n (2 ^ v) s = 2 ^ v
  | 0, _ => rfl
  | s + 1, h => by
    have ih := hcw_lo hv (s := s) (by omega)
    have h2 : 2 ^ v < 256 := Nat.lt_of_lt_of_le (Nat.pow_lt_pow_right (by decide) hv : 2 ^ v < 2 ^ 8) (by decide)
    rw [hcS, ih]
    split
    · rename_i q
      have q1 := tb_ge ((bit_w hv (by omega)).mp q.1)
      have e : s = 2 ^ v := by omega
      exact e
    · rfl
theorem wi_0 {v : Nat} : wiS z n v 0 = nI 0 := if_pos (Nat.zero_le _)
theorem wi_n {v : Nat} (hv : v < 8) (hm : m < 256) (h : m.testBit v = false) : wiS z n v (m + 1) = wiS z n v m := by
  unfold wiS
  have hne : ¬ m = 2 ^ v := fun q => by rw [q, Nat.testBit_two_pow_self] at h; exact absurd h (by decide)
  by_cases q : m ≤ 2 ^ v
  · rw [if_pos q, if_pos (by omega)]
  · rw [if_neg q, if_neg (by omega), hcS, if_neg (fun g => by rw [(bit_w hv hm).mp g.1] at h; exact absurd h (by decide))]
theorem wi_c {v : Nat} (hn : n ≤ 8) (hk : gk z n mk) (hw : gw z n wt) (hs : gs z n) (hv : v < n) (hm : m < 2 ^ n) (h : clW z n m = -1) : wiS z n v (m + 1) = wiS z n v m := by
  unfold wiS
  have hne : ¬ m = 2 ^ v := fun q => by
    have e := clW_z hn hk hw hs hm
    rw [q, if_pos (icl_1 hn hk hv)] at e
    obtain ⟨k, hk9, e2⟩ := wz_ge hn hw (m := 2 ^ v) (n2_256 hn (by rw [← q]; exact hm))
    rw [e2, ← q, h] at e
    exact m1_ne (by omega) e.symm
  by_cases q : m ≤ 2 ^ v
  · rw [if_pos q, if_pos (by omega)]
  · have hge := cw_ge hn hk hw (hcS_lt (z := z) (w := 2 ^ v) (p2_lt hv) (Nat.le_of_lt hm))
    rw [if_neg q, if_neg (by omega), hcS, if_neg (fun g => g.2 (by rw [h]; exact hge))]
theorem wi_y {v : Nat} (hn : n ≤ 8) (hk : gk z n mk) (hw : gw z n wt) (hv : v < n) (hm : m < 2 ^ n) (hc : clW z n m = nI (wsN wt m n)) (hb : m.testBit v = true) (h : ¬ clW z n m ≤ wiS z n v m) : wiS z n v (m + 1) = clW z n m := by
  have h2 := tb_ge hb
  unfold wiS at h ⊢
  rw [if_neg (by omega)]
  by_cases q : m ≤ 2 ^ v
  · have e : m = 2 ^ v := by omega
    rw [e, hcw_lo (by omega) (Nat.le_refl _)]
  · rw [if_neg q] at h
    rw [hcS, if_pos ⟨(bit_w (by omega) (n2_256 hn hm)).mpr hb, h⟩]
theorem wi_k {v : Nat} (hn : n ≤ 8) (hk : gk z n mk) (hw : gw z n wt) (hv : v < n) (hm : m < 2 ^ n) (hc : clW z n m = nI (wsN wt m n)) (hb : m.testBit v = true) (h : clW z n m ≤ wiS z n v m) : wiS z n v (m + 1) = wiS z n v m := by
  have h2 := tb_ge hb
  have hwb := wsN_le (m := m) (fun u hu => (hw u hu).2) (v := n) (Nat.le_refl n)
  unfold wiS at h ⊢
  rw [if_neg (by omega)]
  by_cases q : m ≤ 2 ^ v
  · have e : m = 2 ^ v := by omega
    rw [if_pos q] at h
    rw [if_pos q, e, hcw_lo (by omega) (Nat.le_refl _), ← e, hc]
    rw [hc, nI_leI (by omega) (by decide)] at h
    rw [show wsN wt m n = 0 by omega]
  · rw [if_neg q] at h
    rw [if_neg q, hcS, if_neg (fun g => g.2 h)]
theorem wi_e {v : Nat} (hv : v < n) : wiS z n v (2 ^ n) = clW z n (hcS z n (2 ^ v) (2 ^ n)) := if_neg (Nat.not_le.mpr (p2_lt hv))
theorem vx_5 {v : Nat} (hn : n ≤ 8) (hk : gk z n mk) (hw : gw z n wt) (hs : gs z n) (hv : v < n) : vnz z n v 5 = clW z n (hcS z n (2 ^ v) (2 ^ n)) := by
  rw [(hc_z hn hk hw hs (p2_lt hv) (icl_1 hn hk hv)).2, ← s1_p (show v < 8 by omega)]
  rfl
end CW9
/-- the row while the sets are gone through, and while one of them is -/
def wrI (z : Nat → Int32) (n m t : Nat) (M M4 : Mm) : Prop := o1 140 M M4 ∧ ∀ u, u < n → M4.1 140 u = if u < t then wiS z n u (m + 1) else wiS z n u m
theorem wr_k {z : Nat → Int32} {n m t : Nat} {M M4 : Mm} (h : wrI z n m t M M4) (e : wiS z n t (m + 1) = wiS z n t m) : wrI z n m (t + 1) M M4 := ⟨h.1, fun u hu => by
  rw [h.2 u hu]
  by_cases q : u < t
  · rw [if_pos q, if_pos (by omega)]
  · rw [if_neg q]
    by_cases q2 : u = t
    · rw [q2, if_pos (by omega), e]
    · rw [if_neg (by omega)]⟩
theorem wr_y {z : Nat → Int32} {n m t : Nat} {M M4 : Mm} {x : Int32} (h : wrI z n m t M M4) (e : wiS z n t (m + 1) = x) : wrI z n m (t + 1) M (mI M4 140 t x) := ⟨h.1.I, fun u hu => by
  rw [mI_eq]
  by_cases q2 : u = t
  · rw [q2, upd_e, if_pos (by omega), e]
  · rw [upd_n _ _ q2, h.2 u hu]
    by_cases q : u < t
    · rw [if_pos q, if_pos (by omega)]
    · rw [if_neg q, if_neg (by omega)]⟩
set_option maxRecDepth 100000 in
set_option maxHeartbeats 4000000 in
theorem c_L_cliquesT (l : Launch) (D : va_G) (cs : Nat → ClassId) (ad : Nat → Nat) (M : Mm) (z : Nat → Int32) (n d s : Nat) (e : Nat → Nat → Bool) (sM : CS M z n d e s) (tM : LR M z n d e) (h1W : ad 1000 = 1) (hw0 : ∀ u, M.1 140 u = nI 0) {κ : Kx} (C : CX D cs ad cL_cliques 12 RL 43 1064 1 κ) (hN : CN ad κ) (E : eZ l D cs ad 12 cL_cliques 1 κ (fun r M2 => r = bI true ∧ lkW M M2)) : VV l D cs ad 12 κ 1 M 14 [(7, .ref (ad 140)), (6, .int (nI 0)), (5, .int (nI 0)), (4, .int (nI 0)), (0, .ref (ad 117)), (1, .ref (ad 135)), (2, .ref (ad 136)), (3, .ref (ad 137))] [] := by
  have hq := sM.1
  have hzz := gq_gz hq
  have hzz2 := hzz
  obtain ⟨-, -, hn, hd9, ⟨mk, hk⟩, hsy, hw, hl9, hh9, hl0, hh0⟩ := hzz2
  have hn4 := sM.2.1
  have hn8 : n ≤ 8 := hn.2
  have hn1 : 1 ≤ n := hn.1
  have hm := gk_gm hn8 hk
  have he := hq.2.2.2.2.1
  obtain ⟨hBr, hpo⟩ := gz_B hzz
  have hp4 : 2 ^ n ≤ 16 := (Nat.pow_le_pow_right (by decide) hn4 : 2 ^ n ≤ 2 ^ 4)
  have hp1 := Nat.two_pow_pos n
  refine r_iconst C (nI 0) dL_cliques_14 (by decide) ?_
  refine r_lve (lv2 := [(7, .ref (ad 140)), (6, .int (nI 0)), (5, .int (clW z n (hcS z n 0 0))), (4, .int (nI 0)), (0, .ref (ad 117)), (1, .ref (ad 135)), (2, .ref (ad 136)), (3, .ref (ad 137))]) (by rw [show clW z n (hcS z n 0 0) = nI 0 from cw_0 z n]) ?_
  refine r_istore C [(8, .int (nI 0)), (7, .ref (ad 140)), (6, .int (nI 0)), (5, .int (clW z n (hcS z n 0 0))), (4, .int (nI 0)), (0, .ref (ad 117)), (1, .ref (ad 135)), (2, .ref (ad 136)), (3, .ref (ad 137))] dL_cliques_15 (by decide) rfl ?_
  have Lp : ∀ (f_m m : Nat) (M3 : Mm), (2 ^ n) + 1 ≤ m + f_m → m ≤ (2 ^ n) → (o1 140 M M3 ∧ ∀ u, u < n → M3.1 140 u = wiS z n u m) → VV l D cs ad 12 κ 1 M3 17 [(8, .int (nI m)), (4, .int (nI (hcS z n 0 m))), (5, .int (clW z n (hcS z n 0 m))), (6, .int (mcS z n m)), (7, .ref (ad 140)), (0, .ref (ad 117)), (1, .ref (ad 135)), (2, .ref (ad 136)), (3, .ref (ad 137))] [] := by
    intro f_m
    induction f_m with
    | zero => intro m M3 hk1_m hk2_m hI_m; exact absurd hk1_m (by omega)
    | succ f_m ih_m =>
      intro m M3 hk1_m hk2_m hI_m
      have tM3 : LR M3 z n d e := lk_LR tM (fun i h1 h2 => hI_m.1.1 i (by omega))
      have hhl := hcS_lt (z := z) (w := 0) (Nat.two_pow_pos n) (show m ≤ 2 ^ n from hk2_m)
      refine r_iload C dL_cliques_17 0 rfl ?_
      refine r_iconst C (nI 1) dL_cliques_19 (by decide) ?_
      refine r_aload_n C dL_cliques_20 rfl 6 rfl ?_
      refine r_iconst C (nI 0) dL_cliques_21 (by decide) ?_
      refine r_iald C (id := 135) (n := 3) (a := 0) (by decide) rfl (by decide) (by decide) dL_cliques_22 ?_
      refine r_topi (w := nI n) (tM3).1 ?_
      refine r_ishl C dL_cliques_23 ?_
      refine r_topi (w := s1 n) rfl ?_
      refine r_topi (w := nI (2 ^ n)) (s1_p (by omega)) ?_
      refine r_icmpN_ge C 160 dL_cliques_24 (by decide) (by omega) (by omega) (fun h24 => ?_) (fun h24 => ?_)
      ·
        have hk9 : m = 2 ^ n := by omega
        rw [hk9] at hI_m
        have hhe := hcS_lt (z := z) (w := 0) (Nat.two_pow_pos n) (Nat.le_refl (2 ^ n))
        rw [hk9]
        refine r_iconst C (nI 0) dL_cliques_160 (by decide) ?_
        refine r_istore C [(8, .int (nI 0)), (4, .int (nI (hcS z n 0 (2 ^ n)))), (5, .int (clW z n (hcS z n 0 (2 ^ n)))), (6, .int (mcS z n (2 ^ n))), (7, .ref (ad 140)), (0, .ref (ad 117)), (1, .ref (ad 135)), (2, .ref (ad 136)), (3, .ref (ad 137))] dL_cliques_161 (by decide) rfl ?_
        have Ls : ∀ (f_v v : Nat) (M5 : Mm), n + 1 ≤ v + f_v → v ≤ n → (lkW M M5 ∧ ∀ u, u < n → M5.1 140 u = wiS z n u (2 ^ n)) → VV l D cs ad 12 κ 1 M5 163 [(8, .int (nI v)), (4, .int (nI (hcS z n 0 (2 ^ n)))), (5, .int (clW z n (hcS z n 0 (2 ^ n)))), (6, .int (mcS z n (2 ^ n))), (7, .ref (ad 140)), (0, .ref (ad 117)), (1, .ref (ad 135)), (2, .ref (ad 136)), (3, .ref (ad 137))] [] := by
          intro f_v
          induction f_v with
          | zero => intro v M5 hk1_v hk2_v hI_v; exact absurd hk1_v (by omega)
          | succ f_v ih_v =>
            intro v M5 hk1_v hk2_v hI_v
            have sM5 : CS M5 z n d e s := lk_CS sM (fun i hi => (hI_v.1 i (by omega) (by omega)).1)
            have tM5 : LR M5 z n d e := lk_LR tM (fun i h1 h2 => (hI_v.1 i (by omega) (by omega)).1)
            have kM5 := hI_v.1
            refine r_iload C dL_cliques_163 0 rfl ?_
            refine r_aload_n C dL_cliques_165 rfl 6 rfl ?_
            refine r_iconst C (nI 0) dL_cliques_166 (by decide) ?_
            refine r_iald C (id := 135) (n := 3) (a := 0) (by decide) rfl (by decide) (by decide) dL_cliques_167 ?_
            refine r_topi (w := nI n) (tM5).1 ?_
            refine r_icmpN_ge C 194 dL_cliques_168 (by decide) (by omega) (by omega) (fun h168 => ?_) (fun h168 => ?_)
            ·
              have hk9 : n = v := by omega
              subst hk9
              refine r_aload_n C dL_cliques_194 rfl 5 rfl ?_
              refine r_iconst C (nI 3) dL_cliques_195 (by decide) ?_
              refine r_ncallV_i (nA := 1) C hN (Nat.le_of_ble_eq_true rfl) [.int (nI 3)] (c_X7_count l D cs ad M5  z n d sM5.2.2.2.1 hn8 hm mk (wtz z) hk hw hsy hn1 sM5.2.2.2.2.1 (fun k q => Or.inl (sM5.2.2.2.2.2.1 k q)) 3 (by decide)) (tt_V ml_L_42 im_X7_count se_X7_count in_X7 co_X7_count) ⟨rfl, rfl⟩ ⟨rfl, by decide, by decide, by decide⟩ ⟨Nat.le_of_ble_eq_true rfl, Nat.le_of_ble_eq_true rfl⟩ (by decide) rfl rfl rfl rfl rfl (Nat.le_of_ble_eq_true rfl) dL_cliques_196 (fun ru1 Mu1 qu1 => ?_)
              have sMu1 := lkC sM5 qu1.2
              have tMu1 := lkL tM5 qu1.2
              have kMu1 := kM5.tr qu1.2
              refine r_topi (w := (clW z n (hcS z n 0 (2 ^ n)))) (qu1.1.trans ((hc_z hn8 hk hw hsy (Nat.two_pow_pos n) (icl_0 hn8 hk)).2.symm)) ?_
              refine r_iload C dL_cliques_199 2 rfl ?_
              refine r_icmp_ne C 228 dL_cliques_201 (by decide) (fun h201 => ?_) (fun h201 => ?_)
              · exact absurd rfl h201
              ·
                refine r_aload_n C dL_cliques_204 rfl 5 rfl ?_
                refine r_iconst C (nI 4) dL_cliques_205 (by decide) ?_
                refine r_ncallV_i (nA := 1) C hN (Nat.le_of_ble_eq_true rfl) [.int (nI 4)] (c_X7_count l D cs ad Mu1  z n d sMu1.2.2.2.1 hn8 hm mk (wtz z) hk hw hsy hn1 sMu1.2.2.2.2.1 (fun k q => Or.inl (sMu1.2.2.2.2.2.1 k q)) 4 (by decide)) (tt_V ml_L_42 im_X7_count se_X7_count in_X7 co_X7_count) ⟨rfl, rfl⟩ ⟨rfl, by decide, by decide, by decide⟩ ⟨Nat.le_of_ble_eq_true rfl, Nat.le_of_ble_eq_true rfl⟩ (by decide) rfl rfl rfl rfl rfl (Nat.le_of_ble_eq_true rfl) dL_cliques_206 (fun ru2 Mu2 qu2 => ?_)
                have sMu2 := lkC sMu1 qu2.2
                have tMu2 := lkL tMu1 qu2.2
                have kMu2 := kMu1.tr qu2.2
                refine r_topi (w := nI (hcS z n 0 (2 ^ n))) (qu2.1.trans ((hc_z hn8 hk hw hsy (Nat.two_pow_pos n) (icl_0 hn8 hk)).1.symm)) ?_
                refine r_iload C dL_cliques_209 1 rfl ?_
                refine r_icmpN_ne C 228 dL_cliques_211 (by decide) (by omega) (by omega) (fun h211 => ?_) (fun h211 => ?_)
                · exact absurd rfl h211
                ·
                  refine r_aload_n C dL_cliques_214 rfl 5 rfl ?_
                  refine r_iconst C (nI 5) dL_cliques_215 (by decide) ?_
                  refine r_ncallV_i (nA := 1) C hN (Nat.le_of_ble_eq_true rfl) [.int (nI 5)] (c_X7_count l D cs ad Mu2  z n d sMu2.2.2.2.1 hn8 hm mk (wtz z) hk hw hsy hn1 sMu2.2.2.2.2.1 (fun k q => Or.inl (sMu2.2.2.2.2.2.1 k q)) 5 (by decide)) (tt_V ml_L_42 im_X7_count se_X7_count in_X7 co_X7_count) ⟨rfl, rfl⟩ ⟨rfl, by decide, by decide, by decide⟩ ⟨Nat.le_of_ble_eq_true rfl, Nat.le_of_ble_eq_true rfl⟩ (by decide) rfl rfl rfl rfl rfl (Nat.le_of_ble_eq_true rfl) dL_cliques_216 (fun ru3 Mu3 qu3 => ?_)
                  have sMu3 := lkC sMu2 qu3.2
                  have tMu3 := lkL tMu2 qu3.2
                  have kMu3 := kMu2.tr qu3.2
                  refine r_topi (w := (mcS z n (2 ^ n))) (qu3.1.trans ((mc_z hn8 hk hw hsy (Nat.le_refl _)).symm)) ?_
                  refine r_iload C dL_cliques_219 3 rfl ?_
                  refine r_icmp_ne C 228 dL_cliques_221 (by decide) (fun h221 => ?_) (fun h221 => ?_)
                  · exact absurd rfl h221
                  ·
                    refine r_iconst C (nI 1) dL_cliques_224 (by decide) ?_
                    refine r_goto C 229 dL_cliques_225 (by decide) ?_
                    exact E 1 _ _ _ _ (Nat.le_of_ble_eq_true rfl) dL_cliques_229 rfl (⟨rfl, kMu3⟩)
            ·
              refine r_aload_n C dL_cliques_171 rfl 5 rfl ?_
              refine r_iload C dL_cliques_172 0 rfl ?_
              refine r_iconst C (nI 5) dL_cliques_174 (by decide) ?_
              refine r_ncallV_i (nA := 2) C hN (Nat.le_of_ble_eq_true rfl) [.int (nI v), .int (nI 5)] (c_X7_vertex l D cs ad M5  z n d sM5.2.2.2.1 hn8 hm mk (wtz z) hk hw hsy hn1 v 5 (by omega) (by omega)) (tt_V ml_L_49 im_X7_vertex se_X7_vertex in_X7 co_X7_vertex) ⟨rfl, rfl⟩ ⟨rfl, by decide, by decide, by decide⟩ ⟨Nat.le_of_ble_eq_true rfl, Nat.le_of_ble_eq_true rfl⟩ (by decide) rfl rfl rfl rfl rfl (Nat.le_of_ble_eq_true rfl) dL_cliques_175 (fun ru4 Mu4 qu4 => ?_)
              have sMu4 := lkC sM5 qu4.2
              have tMu4 := lkL tM5 qu4.2
              have kMu4 := kM5.tr qu4.2
              refine r_topi (w := (clW z n (hcS z n (2 ^ v) (2 ^ n)))) (qu4.1.trans (vx_5 hn8 hk hw hsy (by omega))) ?_
              refine r_aload C dL_cliques_178 4 rfl ?_
              refine r_iload C dL_cliques_180 0 rfl ?_
              refine r_iaW C h1W (a := v) (by omega) dL_cliques_182 ?_
              refine r_topi (w := (clW z n (hcS z n (2 ^ v) (2 ^ n)))) (((congrFun (qu4.2 140 (by decide)).1 v).trans (hI_v.2 v (by omega))).trans (wi_e (by omega))) ?_
              refine r_icmp_eq C 188 dL_cliques_183 (by decide) (fun h183 => ?_) (fun h183 => ?_)
              ·
                refine r_iinc C (nI (v + 1)) [(8, .int (nI (v + 1))), (4, .int (nI (hcS z n 0 (2 ^ n)))), (5, .int (clW z n (hcS z n 0 (2 ^ n)))), (6, .int (mcS z n (2 ^ n))), (7, .ref (ad 140)), (0, .ref (ad 117)), (1, .ref (ad 135)), (2, .ref (ad 136)), (3, .ref (ad 137))] dL_cliques_188 (j := 0) rfl (inc_n v 1) (by decide) rfl ?_
                refine r_goto C 163 dL_cliques_191 (by decide) ?_
                refine r_lv (lv2 := [(8, .int (nI (v + 1))), (4, .int (nI (hcS z n 0 (2 ^ n)))), (5, .int (clW z n (hcS z n 0 (2 ^ n)))), (6, .int (mcS z n (2 ^ n))), (7, .ref (ad 140)), (0, .ref (ad 117)), (1, .ref (ad 135)), (2, .ref (ad 136)), (3, .ref (ad 137))]) [0, 1, 2, 3, 4, 5, 6, 7, 8] rfl ?_
                exact ih_v (v + 1) _ (by omega) (by omega) ⟨kMu4, fun u hu => (congrFun (qu4.2 140 (by decide)).1 u).trans (hI_v.2 u hu)⟩
              · exact absurd rfl h183
        refine r_lv (lv2 := [(8, .int (nI 0)), (4, .int (nI (hcS z n 0 (2 ^ n)))), (5, .int (clW z n (hcS z n 0 (2 ^ n)))), (6, .int (mcS z n (2 ^ n))), (7, .ref (ad 140)), (0, .ref (ad 117)), (1, .ref (ad 135)), (2, .ref (ad 136)), (3, .ref (ad 137))]) [0, 1, 2, 3, 4, 5, 6, 7, 8] rfl ?_
        exact Ls (n + 1) 0 _ (by omega) (by omega) ⟨lkW.o hI_m.1, hI_m.2⟩
      ·
        have hm9 : m < 2 ^ n := by omega
        refine r_aload_n C dL_cliques_27 rfl 6 rfl ?_
        refine r_aload_n C dL_cliques_28 rfl 8 rfl ?_
        refine r_iload C dL_cliques_29 0 rfl ?_
        refine r_pcallS_i (nA := 3) C (Nat.le_of_ble_eq_true rfl) [.ref (ad 135), .ref (ad 137), .int (nI m)] (c_L_clique l D cs ad M3  z n d e tM3 hn4 he mk hk (wtz z) hw m (by omega)) (tt_S ml_L_45 st_L_clique in_L co_L_clique) ⟨rfl, rfl⟩ ⟨rfl, by decide, by decide, by decide⟩ ⟨Nat.le_of_ble_eq_true rfl, Nat.le_of_ble_eq_true rfl⟩ rfl rfl (Nat.le_of_ble_eq_true rfl) dL_cliques_31 ?_
        refine r_ifB_eq C 154 dL_cliques_34 (by decide) (fun h34 => ?_) (fun h34 => ?_)
        ·
          have hcw := cw_n h34
          refine r_lve (lv2 := [(8, .int (nI m)), (4, .int (nI (hcS z n 0 (m + 1)))), (5, .int (clW z n (hcS z n 0 (m + 1)))), (6, .int (mcS z n (m + 1))), (7, .ref (ad 140)), (0, .ref (ad 117)), (1, .ref (ad 135)), (2, .ref (ad 136)), (3, .ref (ad 137))]) (by rw [hc0_n (by rw [hcw]; exact cw_ge hn8 hk hw (Nat.lt_of_lt_of_le (hcS_lt (z := z) (w := 0) (Nat.two_pow_pos n) (Nat.le_of_lt hm9)) (Nat.le_refl _))), mc_c hcw]) ?_
          refine r_iinc C (nI (m + 1)) [(8, .int (nI (m + 1))), (4, .int (nI (hcS z n 0 (m + 1)))), (5, .int (clW z n (hcS z n 0 (m + 1)))), (6, .int (mcS z n (m + 1))), (7, .ref (ad 140)), (0, .ref (ad 117)), (1, .ref (ad 135)), (2, .ref (ad 136)), (3, .ref (ad 137))] dL_cliques_154 (j := 0) rfl (inc_n m 1) (by decide) rfl ?_
          refine r_goto C 17 dL_cliques_157 (by decide) ?_
          refine r_lv (lv2 := [(8, .int (nI (m + 1))), (4, .int (nI (hcS z n 0 (m + 1)))), (5, .int (clW z n (hcS z n 0 (m + 1)))), (6, .int (mcS z n (m + 1))), (7, .ref (ad 140)), (0, .ref (ad 117)), (1, .ref (ad 135)), (2, .ref (ad 136)), (3, .ref (ad 137))]) [0, 1, 2, 3, 4, 5, 6, 7, 8] rfl ?_
          exact ih_m (m + 1) _ (by omega) (by omega) ⟨hI_m.1, fun u hu => (hI_m.2 u hu).trans (wi_c hn8 hk hw hsy hu hm9 hcw).symm⟩
        ·
          have hcw := cw_y hn8 hk hw hm9 h34
          have hwl := wsN_le (m := m) (fun u hu => (hw u hu).2) (v := n) (Nat.le_refl n)
          have hcl9 := cb_le m n
          refine r_iconst C (nI 0) dL_cliques_37 (by decide) ?_
          refine r_istore C [(9, .int (nI 0)), (8, .int (nI m)), (4, .int (nI (hcS z n 0 m))), (5, .int (clW z n (hcS z n 0 m))), (6, .int (mcS z n m)), (7, .ref (ad 140)), (0, .ref (ad 117)), (1, .ref (ad 135)), (2, .ref (ad 136)), (3, .ref (ad 137))] dL_cliques_38 (by decide) rfl ?_
          refine r_iconst C (nI 0) dL_cliques_40 (by decide) ?_
          refine r_istore C [(10, .int (nI 0)), (9, .int (nI 0)), (8, .int (nI m)), (4, .int (nI (hcS z n 0 m))), (5, .int (clW z n (hcS z n 0 m))), (6, .int (mcS z n m)), (7, .ref (ad 140)), (0, .ref (ad 117)), (1, .ref (ad 135)), (2, .ref (ad 136)), (3, .ref (ad 137))] dL_cliques_41 (by decide) rfl ?_
          refine r_iconst C (nI 0) dL_cliques_43 (by decide) ?_
          refine r_istore C [(11, .int (nI 0)), (10, .int (nI 0)), (9, .int (nI 0)), (8, .int (nI m)), (4, .int (nI (hcS z n 0 m))), (5, .int (clW z n (hcS z n 0 m))), (6, .int (mcS z n m)), (7, .ref (ad 140)), (0, .ref (ad 117)), (1, .ref (ad 135)), (2, .ref (ad 136)), (3, .ref (ad 137))] dL_cliques_44 (by decide) rfl ?_
          have Lq : ∀ (f_v v : Nat), n + 1 ≤ v + f_v → v ≤ n → VV l D cs ad 12 κ 1 M3 46 [(11, .int (nI v)), (9, .int (nI (wsN (wtz z) m v))), (10, .int (nI (cbN m v))), (8, .int (nI m)), (4, .int (nI (hcS z n 0 m))), (5, .int (clW z n (hcS z n 0 m))), (6, .int (mcS z n m)), (7, .ref (ad 140)), (0, .ref (ad 117)), (1, .ref (ad 135)), (2, .ref (ad 136)), (3, .ref (ad 137))] [] := by
            intro f_v
            induction f_v with
            | zero => intro v hk1_v hk2_v; exact absurd hk1_v (by omega)
            | succ f_v ih_v =>
              intro v hk1_v hk2_v
              have hwv := wsN_le (m := m) (fun u hu => (hw u hu).2) (v := v) (by omega)
              have hcv := cb_le m v
              refine r_iload C dL_cliques_46 0 rfl ?_
              refine r_aload_n C dL_cliques_48 rfl 9 rfl ?_
              refine r_iconst C (nI 0) dL_cliques_49 (by decide) ?_
              refine r_iald C (id := 135) (n := 3) (a := 0) (by decide) rfl (by decide) (by decide) dL_cliques_50 ?_
              refine r_topi (w := nI n) (tM3).1 ?_
              refine r_icmpN_ge C 83 dL_cliques_51 (by decide) (by omega) (by omega) (fun h51 => ?_) (fun h51 => ?_)
              ·
                have hk9 : n = v := by omega
                subst hk9
                refine r_iload C dL_cliques_83 1 rfl ?_
                refine r_topi (w := clW z n m) hcw.symm ?_
                refine r_iload C dL_cliques_85 5 rfl ?_
                refine r_icmp_le C 98 dL_cliques_87 (by decide) (fun h87 => ?_) (fun h87 => ?_)
                ·
                  refine r_lve (lv2 := [(11, .int (nI n)), (9, .int (nI (wsN (wtz z) m n))), (10, .int (nI (cbN m n))), (8, .int (nI m)), (4, .int (nI (hcS z n 0 (m + 1)))), (5, .int (clW z n (hcS z n 0 (m + 1)))), (6, .int (mcS z n m)), (7, .ref (ad 140)), (0, .ref (ad 117)), (1, .ref (ad 135)), (2, .ref (ad 136)), (3, .ref (ad 137))]) (by rw [hc0_n h87]) ?_
                  refine r_iload C dL_cliques_98 2 rfl ?_
                  refine r_topi (w := bcI (nI m)) (cb_on hn4 hm9).symm ?_
                  refine r_iload C dL_cliques_100 6 rfl ?_
                  refine r_icmp_le C 109 dL_cliques_102 (by decide) (fun h102 => ?_) (fun h102 => ?_)
                  ·
                    refine r_lve (lv2 := [(11, .int (nI n)), (9, .int (nI (wsN (wtz z) m n))), (10, .int (nI (cbN m n))), (8, .int (nI m)), (4, .int (nI (hcS z n 0 (m + 1)))), (5, .int (clW z n (hcS z n 0 (m + 1)))), (6, .int (mcS z n (m + 1))), (7, .ref (ad 140)), (0, .ref (ad 117)), (1, .ref (ad 135)), (2, .ref (ad 136)), (3, .ref (ad 137))]) (by rw [mc_n h102]) ?_
                    refine r_iconst C (nI 0) dL_cliques_109 (by decide) ?_
                    refine r_istore C [(11, .int (nI 0)), (9, .int (nI (wsN (wtz z) m n))), (10, .int (nI (cbN m n))), (8, .int (nI m)), (4, .int (nI (hcS z n 0 (m + 1)))), (5, .int (clW z n (hcS z n 0 (m + 1)))), (6, .int (mcS z n (m + 1))), (7, .ref (ad 140)), (0, .ref (ad 117)), (1, .ref (ad 135)), (2, .ref (ad 136)), (3, .ref (ad 137))] dL_cliques_110 (by decide) rfl ?_
                    have Lr : ∀ (f_t t : Nat) (M4 : Mm), n + 1 ≤ t + f_t → t ≤ n → wrI z n m t M M4 → VV l D cs ad 12 κ 1 M4 112 [(11, .int (nI t)), (9, .int (nI (wsN (wtz z) m n))), (10, .int (nI (cbN m n))), (8, .int (nI m)), (4, .int (nI (hcS z n 0 (m + 1)))), (5, .int (clW z n (hcS z n 0 (m + 1)))), (6, .int (mcS z n (m + 1))), (7, .ref (ad 140)), (0, .ref (ad 117)), (1, .ref (ad 135)), (2, .ref (ad 136)), (3, .ref (ad 137))] [] := by
                      intro f_t
                      induction f_t with
                      | zero => intro t M4 hk1_t hk2_t hI_t; exact absurd hk1_t (by omega)
                      | succ f_t ih_t =>
                        intro t M4 hk1_t hk2_t hI_t
                        have tM4 : LR M4 z n d e := lk_LR tM (fun i h1 h2 => hI_t.1.1 i (by omega))
                        refine r_iload C dL_cliques_112 0 rfl ?_
                        refine r_aload_n C dL_cliques_114 rfl 9 rfl ?_
                        refine r_iconst C (nI 0) dL_cliques_115 (by decide) ?_
                        refine r_iald C (id := 135) (n := 3) (a := 0) (by decide) rfl (by decide) (by decide) dL_cliques_116 ?_
                        refine r_topi (w := nI n) (tM4).1 ?_
                        refine r_icmpN_ge C 154 dL_cliques_117 (by decide) (by omega) (by omega) (fun h117 => ?_) (fun h117 => ?_)
                        ·
                          have hk9 : n = t := by omega
                          subst hk9
                          refine r_iinc C (nI (m + 1)) [(8, .int (nI (m + 1))), (11, .int (nI n)), (9, .int (nI (wsN (wtz z) m n))), (10, .int (nI (cbN m n))), (4, .int (nI (hcS z n 0 (m + 1)))), (5, .int (clW z n (hcS z n 0 (m + 1)))), (6, .int (mcS z n (m + 1))), (7, .ref (ad 140)), (0, .ref (ad 117)), (1, .ref (ad 135)), (2, .ref (ad 136)), (3, .ref (ad 137))] dL_cliques_154 (j := 3) rfl (inc_n m 1) (by decide) rfl ?_
                          refine r_goto C 17 dL_cliques_157 (by decide) ?_
                          refine r_lv (lv2 := [(8, .int (nI (m + 1))), (4, .int (nI (hcS z n 0 (m + 1)))), (5, .int (clW z n (hcS z n 0 (m + 1)))), (6, .int (mcS z n (m + 1))), (7, .ref (ad 140)), (0, .ref (ad 117)), (1, .ref (ad 135)), (2, .ref (ad 136)), (3, .ref (ad 137))]) [0, 4, 5, 6, 7, 8, 9, 10, 11] rfl ?_
                          exact ih_m (m + 1) _ (by omega) (by omega) ⟨hI_t.1, fun u hu => (hI_t.2 u hu).trans (if_pos hu)⟩
                        ·
                          refine r_iload C dL_cliques_120 3 rfl ?_
                          refine r_iload C dL_cliques_122 0 rfl ?_
                          refine r_ishr C dL_cliques_124 ?_
                          refine r_iconst C (nI 1) dL_cliques_125 (by decide) ?_
                          refine r_iand C dL_cliques_126 ?_
                          refine r_iconst C (nI 1) dL_cliques_127 (by decide) ?_
                          refine r_icmp_ne C 148 dL_cliques_128 (by decide) (fun h128 => ?_) (fun h128 => ?_)
                          ·
                            refine r_iinc C (nI (t + 1)) [(11, .int (nI (t + 1))), (9, .int (nI (wsN (wtz z) m n))), (10, .int (nI (cbN m n))), (8, .int (nI m)), (4, .int (nI (hcS z n 0 (m + 1)))), (5, .int (clW z n (hcS z n 0 (m + 1)))), (6, .int (mcS z n (m + 1))), (7, .ref (ad 140)), (0, .ref (ad 117)), (1, .ref (ad 135)), (2, .ref (ad 136)), (3, .ref (ad 137))] dL_cliques_148 (j := 0) rfl (inc_n t 1) (by decide) rfl ?_
                            refine r_goto C 112 dL_cliques_151 (by decide) ?_
                            refine r_lv (lv2 := [(11, .int (nI (t + 1))), (9, .int (nI (wsN (wtz z) m n))), (10, .int (nI (cbN m n))), (8, .int (nI m)), (4, .int (nI (hcS z n 0 (m + 1)))), (5, .int (clW z n (hcS z n 0 (m + 1)))), (6, .int (mcS z n (m + 1))), (7, .ref (ad 140)), (0, .ref (ad 117)), (1, .ref (ad 135)), (2, .ref (ad 136)), (3, .ref (ad 137))]) [0, 1, 2, 3, 4, 5, 6, 7, 8, 9, 10, 11] rfl ?_
                            exact ih_t (t + 1) _ (by omega) (by omega) (wr_k hI_t (wi_n (by omega) (by omega) (bt_off (by omega) (by omega) h128)))
                          ·
                            refine r_iload C dL_cliques_131 1 rfl ?_
                            refine r_topi (w := clW z n m) hcw.symm ?_
                            refine r_aload C dL_cliques_133 7 rfl ?_
                            refine r_iload C dL_cliques_135 0 rfl ?_
                            refine r_iaW C h1W (a := t) (by omega) dL_cliques_137 ?_
                            refine r_topi (w := (wiS z n t m)) ((hI_t.2 t (by omega)).trans (if_neg (Nat.lt_irrefl t))) ?_
                            refine r_icmp_le C 148 dL_cliques_138 (by decide) (fun h138 => ?_) (fun h138 => ?_)
                            ·
                              refine r_iinc C (nI (t + 1)) [(11, .int (nI (t + 1))), (9, .int (nI (wsN (wtz z) m n))), (10, .int (nI (cbN m n))), (8, .int (nI m)), (4, .int (nI (hcS z n 0 (m + 1)))), (5, .int (clW z n (hcS z n 0 (m + 1)))), (6, .int (mcS z n (m + 1))), (7, .ref (ad 140)), (0, .ref (ad 117)), (1, .ref (ad 135)), (2, .ref (ad 136)), (3, .ref (ad 137))] dL_cliques_148 (j := 0) rfl (inc_n t 1) (by decide) rfl ?_
                              refine r_goto C 112 dL_cliques_151 (by decide) ?_
                              refine r_lv (lv2 := [(11, .int (nI (t + 1))), (9, .int (nI (wsN (wtz z) m n))), (10, .int (nI (cbN m n))), (8, .int (nI m)), (4, .int (nI (hcS z n 0 (m + 1)))), (5, .int (clW z n (hcS z n 0 (m + 1)))), (6, .int (mcS z n (m + 1))), (7, .ref (ad 140)), (0, .ref (ad 117)), (1, .ref (ad 135)), (2, .ref (ad 136)), (3, .ref (ad 137))]) [0, 1, 2, 3, 4, 5, 6, 7, 8, 9, 10, 11] rfl ?_
                              exact ih_t (t + 1) _ (by omega) (by omega) (wr_k hI_t (wi_k hn8 hk hw (by omega) hm9 hcw (bt_on (by omega) (by omega) h128) h138))
                            ·
                              refine r_aload C dL_cliques_141 7 rfl ?_
                              refine r_iload C dL_cliques_143 0 rfl ?_
                              refine r_iload C dL_cliques_145 1 rfl ?_
                              refine r_isW C h1W (a := t) (by omega) dL_cliques_147 ?_
                              refine r_iinc C (nI (t + 1)) [(11, .int (nI (t + 1))), (9, .int (nI (wsN (wtz z) m n))), (10, .int (nI (cbN m n))), (8, .int (nI m)), (4, .int (nI (hcS z n 0 (m + 1)))), (5, .int (clW z n (hcS z n 0 (m + 1)))), (6, .int (mcS z n (m + 1))), (7, .ref (ad 140)), (0, .ref (ad 117)), (1, .ref (ad 135)), (2, .ref (ad 136)), (3, .ref (ad 137))] dL_cliques_148 (j := 0) rfl (inc_n t 1) (by decide) rfl ?_
                              refine r_goto C 112 dL_cliques_151 (by decide) ?_
                              refine r_lv (lv2 := [(11, .int (nI (t + 1))), (9, .int (nI (wsN (wtz z) m n))), (10, .int (nI (cbN m n))), (8, .int (nI m)), (4, .int (nI (hcS z n 0 (m + 1)))), (5, .int (clW z n (hcS z n 0 (m + 1)))), (6, .int (mcS z n (m + 1))), (7, .ref (ad 140)), (0, .ref (ad 117)), (1, .ref (ad 135)), (2, .ref (ad 136)), (3, .ref (ad 137))]) [0, 1, 2, 3, 4, 5, 6, 7, 8, 9, 10, 11] rfl ?_
                              exact ih_t (t + 1) _ (by omega) (by omega) (wr_y hI_t ((wi_y hn8 hk hw (by omega) hm9 hcw (bt_on (by omega) (by omega) h128) h138).trans hcw))
                    refine r_lv (lv2 := [(11, .int (nI 0)), (9, .int (nI (wsN (wtz z) m n))), (10, .int (nI (cbN m n))), (8, .int (nI m)), (4, .int (nI (hcS z n 0 (m + 1)))), (5, .int (clW z n (hcS z n 0 (m + 1)))), (6, .int (mcS z n (m + 1))), (7, .ref (ad 140)), (0, .ref (ad 117)), (1, .ref (ad 135)), (2, .ref (ad 136)), (3, .ref (ad 137))]) [0, 1, 2, 3, 4, 5, 6, 7, 8, 9, 10, 11] rfl ?_
                    exact Lr (n + 1) 0 _ (by omega) (by omega) ⟨hI_m.1, fun u hu => (hI_m.2 u hu).trans (if_neg (Nat.not_lt_zero u)).symm⟩
                  ·
                    refine r_iload C dL_cliques_105 2 rfl ?_
                    refine r_istore C [(6, .int (nI (cbN m n))), (11, .int (nI n)), (9, .int (nI (wsN (wtz z) m n))), (10, .int (nI (cbN m n))), (8, .int (nI m)), (4, .int (nI (hcS z n 0 (m + 1)))), (5, .int (clW z n (hcS z n 0 (m + 1)))), (7, .ref (ad 140)), (0, .ref (ad 117)), (1, .ref (ad 135)), (2, .ref (ad 136)), (3, .ref (ad 137))] dL_cliques_107 (by decide) rfl ?_
                    refine r_lve (lv2 := [(6, .int (mcS z n (m + 1))), (11, .int (nI n)), (9, .int (nI (wsN (wtz z) m n))), (10, .int (nI (cbN m n))), (8, .int (nI m)), (4, .int (nI (hcS z n 0 (m + 1)))), (5, .int (clW z n (hcS z n 0 (m + 1)))), (7, .ref (ad 140)), (0, .ref (ad 117)), (1, .ref (ad 135)), (2, .ref (ad 136)), (3, .ref (ad 137))]) (by rw [mc_y (by rw [hcw]; exact m1_ne (by omega)) h102, cb_on hn4 hm9]) ?_
                    refine r_iconst C (nI 0) dL_cliques_109 (by decide) ?_
                    refine r_istore C [(11, .int (nI 0)), (6, .int (mcS z n (m + 1))), (9, .int (nI (wsN (wtz z) m n))), (10, .int (nI (cbN m n))), (8, .int (nI m)), (4, .int (nI (hcS z n 0 (m + 1)))), (5, .int (clW z n (hcS z n 0 (m + 1)))), (7, .ref (ad 140)), (0, .ref (ad 117)), (1, .ref (ad 135)), (2, .ref (ad 136)), (3, .ref (ad 137))] dL_cliques_110 (by decide) rfl ?_
                    have Lr : ∀ (f_t t : Nat) (M4 : Mm), n + 1 ≤ t + f_t → t ≤ n → wrI z n m t M M4 → VV l D cs ad 12 κ 1 M4 112 [(11, .int (nI t)), (9, .int (nI (wsN (wtz z) m n))), (10, .int (nI (cbN m n))), (8, .int (nI m)), (4, .int (nI (hcS z n 0 (m + 1)))), (5, .int (clW z n (hcS z n 0 (m + 1)))), (6, .int (mcS z n (m + 1))), (7, .ref (ad 140)), (0, .ref (ad 117)), (1, .ref (ad 135)), (2, .ref (ad 136)), (3, .ref (ad 137))] [] := by
                      intro f_t
                      induction f_t with
                      | zero => intro t M4 hk1_t hk2_t hI_t; exact absurd hk1_t (by omega)
                      | succ f_t ih_t =>
                        intro t M4 hk1_t hk2_t hI_t
                        have tM4 : LR M4 z n d e := lk_LR tM (fun i h1 h2 => hI_t.1.1 i (by omega))
                        refine r_iload C dL_cliques_112 0 rfl ?_
                        refine r_aload_n C dL_cliques_114 rfl 9 rfl ?_
                        refine r_iconst C (nI 0) dL_cliques_115 (by decide) ?_
                        refine r_iald C (id := 135) (n := 3) (a := 0) (by decide) rfl (by decide) (by decide) dL_cliques_116 ?_
                        refine r_topi (w := nI n) (tM4).1 ?_
                        refine r_icmpN_ge C 154 dL_cliques_117 (by decide) (by omega) (by omega) (fun h117 => ?_) (fun h117 => ?_)
                        ·
                          have hk9 : n = t := by omega
                          subst hk9
                          refine r_iinc C (nI (m + 1)) [(8, .int (nI (m + 1))), (11, .int (nI n)), (9, .int (nI (wsN (wtz z) m n))), (10, .int (nI (cbN m n))), (4, .int (nI (hcS z n 0 (m + 1)))), (5, .int (clW z n (hcS z n 0 (m + 1)))), (6, .int (mcS z n (m + 1))), (7, .ref (ad 140)), (0, .ref (ad 117)), (1, .ref (ad 135)), (2, .ref (ad 136)), (3, .ref (ad 137))] dL_cliques_154 (j := 3) rfl (inc_n m 1) (by decide) rfl ?_
                          refine r_goto C 17 dL_cliques_157 (by decide) ?_
                          refine r_lv (lv2 := [(8, .int (nI (m + 1))), (4, .int (nI (hcS z n 0 (m + 1)))), (5, .int (clW z n (hcS z n 0 (m + 1)))), (6, .int (mcS z n (m + 1))), (7, .ref (ad 140)), (0, .ref (ad 117)), (1, .ref (ad 135)), (2, .ref (ad 136)), (3, .ref (ad 137))]) [0, 4, 5, 6, 7, 8, 9, 10, 11] rfl ?_
                          exact ih_m (m + 1) _ (by omega) (by omega) ⟨hI_t.1, fun u hu => (hI_t.2 u hu).trans (if_pos hu)⟩
                        ·
                          refine r_iload C dL_cliques_120 3 rfl ?_
                          refine r_iload C dL_cliques_122 0 rfl ?_
                          refine r_ishr C dL_cliques_124 ?_
                          refine r_iconst C (nI 1) dL_cliques_125 (by decide) ?_
                          refine r_iand C dL_cliques_126 ?_
                          refine r_iconst C (nI 1) dL_cliques_127 (by decide) ?_
                          refine r_icmp_ne C 148 dL_cliques_128 (by decide) (fun h128 => ?_) (fun h128 => ?_)
                          ·
                            refine r_iinc C (nI (t + 1)) [(11, .int (nI (t + 1))), (9, .int (nI (wsN (wtz z) m n))), (10, .int (nI (cbN m n))), (8, .int (nI m)), (4, .int (nI (hcS z n 0 (m + 1)))), (5, .int (clW z n (hcS z n 0 (m + 1)))), (6, .int (mcS z n (m + 1))), (7, .ref (ad 140)), (0, .ref (ad 117)), (1, .ref (ad 135)), (2, .ref (ad 136)), (3, .ref (ad 137))] dL_cliques_148 (j := 0) rfl (inc_n t 1) (by decide) rfl ?_
                            refine r_goto C 112 dL_cliques_151 (by decide) ?_
                            refine r_lv (lv2 := [(11, .int (nI (t + 1))), (9, .int (nI (wsN (wtz z) m n))), (10, .int (nI (cbN m n))), (8, .int (nI m)), (4, .int (nI (hcS z n 0 (m + 1)))), (5, .int (clW z n (hcS z n 0 (m + 1)))), (6, .int (mcS z n (m + 1))), (7, .ref (ad 140)), (0, .ref (ad 117)), (1, .ref (ad 135)), (2, .ref (ad 136)), (3, .ref (ad 137))]) [0, 1, 2, 3, 4, 5, 6, 7, 8, 9, 10, 11] rfl ?_
                            exact ih_t (t + 1) _ (by omega) (by omega) (wr_k hI_t (wi_n (by omega) (by omega) (bt_off (by omega) (by omega) h128)))
                          ·
                            refine r_iload C dL_cliques_131 1 rfl ?_
                            refine r_topi (w := clW z n m) hcw.symm ?_
                            refine r_aload C dL_cliques_133 7 rfl ?_
                            refine r_iload C dL_cliques_135 0 rfl ?_
                            refine r_iaW C h1W (a := t) (by omega) dL_cliques_137 ?_
                            refine r_topi (w := (wiS z n t m)) ((hI_t.2 t (by omega)).trans (if_neg (Nat.lt_irrefl t))) ?_
                            refine r_icmp_le C 148 dL_cliques_138 (by decide) (fun h138 => ?_) (fun h138 => ?_)
                            ·
                              refine r_iinc C (nI (t + 1)) [(11, .int (nI (t + 1))), (9, .int (nI (wsN (wtz z) m n))), (10, .int (nI (cbN m n))), (8, .int (nI m)), (4, .int (nI (hcS z n 0 (m + 1)))), (5, .int (clW z n (hcS z n 0 (m + 1)))), (6, .int (mcS z n (m + 1))), (7, .ref (ad 140)), (0, .ref (ad 117)), (1, .ref (ad 135)), (2, .ref (ad 136)), (3, .ref (ad 137))] dL_cliques_148 (j := 0) rfl (inc_n t 1) (by decide) rfl ?_
                              refine r_goto C 112 dL_cliques_151 (by decide) ?_
                              refine r_lv (lv2 := [(11, .int (nI (t + 1))), (9, .int (nI (wsN (wtz z) m n))), (10, .int (nI (cbN m n))), (8, .int (nI m)), (4, .int (nI (hcS z n 0 (m + 1)))), (5, .int (clW z n (hcS z n 0 (m + 1)))), (6, .int (mcS z n (m + 1))), (7, .ref (ad 140)), (0, .ref (ad 117)), (1, .ref (ad 135)), (2, .ref (ad 136)), (3, .ref (ad 137))]) [0, 1, 2, 3, 4, 5, 6, 7, 8, 9, 10, 11] rfl ?_
                              exact ih_t (t + 1) _ (by omega) (by omega) (wr_k hI_t (wi_k hn8 hk hw (by omega) hm9 hcw (bt_on (by omega) (by omega) h128) h138))
                            ·
                              refine r_aload C dL_cliques_141 7 rfl ?_
                              refine r_iload C dL_cliques_143 0 rfl ?_
                              refine r_iload C dL_cliques_145 1 rfl ?_
                              refine r_isW C h1W (a := t) (by omega) dL_cliques_147 ?_
                              refine r_iinc C (nI (t + 1)) [(11, .int (nI (t + 1))), (9, .int (nI (wsN (wtz z) m n))), (10, .int (nI (cbN m n))), (8, .int (nI m)), (4, .int (nI (hcS z n 0 (m + 1)))), (5, .int (clW z n (hcS z n 0 (m + 1)))), (6, .int (mcS z n (m + 1))), (7, .ref (ad 140)), (0, .ref (ad 117)), (1, .ref (ad 135)), (2, .ref (ad 136)), (3, .ref (ad 137))] dL_cliques_148 (j := 0) rfl (inc_n t 1) (by decide) rfl ?_
                              refine r_goto C 112 dL_cliques_151 (by decide) ?_
                              refine r_lv (lv2 := [(11, .int (nI (t + 1))), (9, .int (nI (wsN (wtz z) m n))), (10, .int (nI (cbN m n))), (8, .int (nI m)), (4, .int (nI (hcS z n 0 (m + 1)))), (5, .int (clW z n (hcS z n 0 (m + 1)))), (6, .int (mcS z n (m + 1))), (7, .ref (ad 140)), (0, .ref (ad 117)), (1, .ref (ad 135)), (2, .ref (ad 136)), (3, .ref (ad 137))]) [0, 1, 2, 3, 4, 5, 6, 7, 8, 9, 10, 11] rfl ?_
                              exact ih_t (t + 1) _ (by omega) (by omega) (wr_y hI_t ((wi_y hn8 hk hw (by omega) hm9 hcw (bt_on (by omega) (by omega) h128) h138).trans hcw))
                    refine r_lv (lv2 := [(11, .int (nI 0)), (9, .int (nI (wsN (wtz z) m n))), (10, .int (nI (cbN m n))), (8, .int (nI m)), (4, .int (nI (hcS z n 0 (m + 1)))), (5, .int (clW z n (hcS z n 0 (m + 1)))), (6, .int (mcS z n (m + 1))), (7, .ref (ad 140)), (0, .ref (ad 117)), (1, .ref (ad 135)), (2, .ref (ad 136)), (3, .ref (ad 137))]) [0, 2, 3, 4, 5, 6, 1, 7, 8, 9, 10, 11] rfl ?_
                    exact Lr (n + 1) 0 _ (by omega) (by omega) ⟨hI_m.1, fun u hu => (hI_m.2 u hu).trans (if_neg (Nat.not_lt_zero u)).symm⟩
                ·
                  refine r_iload C dL_cliques_90 1 rfl ?_
                  refine r_istore C [(5, .int (nI (wsN (wtz z) m n))), (11, .int (nI n)), (9, .int (nI (wsN (wtz z) m n))), (10, .int (nI (cbN m n))), (8, .int (nI m)), (4, .int (nI (hcS z n 0 m))), (6, .int (mcS z n m)), (7, .ref (ad 140)), (0, .ref (ad 117)), (1, .ref (ad 135)), (2, .ref (ad 136)), (3, .ref (ad 137))] dL_cliques_92 (by decide) rfl ?_
                  refine r_iload C dL_cliques_94 4 rfl ?_
                  refine r_istore C [(4, .int (nI m)), (5, .int (nI (wsN (wtz z) m n))), (11, .int (nI n)), (9, .int (nI (wsN (wtz z) m n))), (10, .int (nI (cbN m n))), (8, .int (nI m)), (6, .int (mcS z n m)), (7, .ref (ad 140)), (0, .ref (ad 117)), (1, .ref (ad 135)), (2, .ref (ad 136)), (3, .ref (ad 137))] dL_cliques_96 (by decide) rfl ?_
                  refine r_lve (lv2 := [(4, .int (nI (hcS z n 0 (m + 1)))), (5, .int (clW z n (hcS z n 0 (m + 1)))), (11, .int (nI n)), (9, .int (nI (wsN (wtz z) m n))), (10, .int (nI (cbN m n))), (8, .int (nI m)), (6, .int (mcS z n m)), (7, .ref (ad 140)), (0, .ref (ad 117)), (1, .ref (ad 135)), (2, .ref (ad 136)), (3, .ref (ad 137))]) (by rw [hc0_y h87, hcw]) ?_
                  refine r_iload C dL_cliques_98 4 rfl ?_
                  refine r_topi (w := bcI (nI m)) (cb_on hn4 hm9).symm ?_
                  refine r_iload C dL_cliques_100 6 rfl ?_
                  refine r_icmp_le C 109 dL_cliques_102 (by decide) (fun h102 => ?_) (fun h102 => ?_)
                  ·
                    refine r_lve (lv2 := [(4, .int (nI (hcS z n 0 (m + 1)))), (5, .int (clW z n (hcS z n 0 (m + 1)))), (11, .int (nI n)), (9, .int (nI (wsN (wtz z) m n))), (10, .int (nI (cbN m n))), (8, .int (nI m)), (6, .int (mcS z n (m + 1))), (7, .ref (ad 140)), (0, .ref (ad 117)), (1, .ref (ad 135)), (2, .ref (ad 136)), (3, .ref (ad 137))]) (by rw [mc_n h102]) ?_
                    refine r_iconst C (nI 0) dL_cliques_109 (by decide) ?_
                    refine r_istore C [(11, .int (nI 0)), (4, .int (nI (hcS z n 0 (m + 1)))), (5, .int (clW z n (hcS z n 0 (m + 1)))), (9, .int (nI (wsN (wtz z) m n))), (10, .int (nI (cbN m n))), (8, .int (nI m)), (6, .int (mcS z n (m + 1))), (7, .ref (ad 140)), (0, .ref (ad 117)), (1, .ref (ad 135)), (2, .ref (ad 136)), (3, .ref (ad 137))] dL_cliques_110 (by decide) rfl ?_
                    have Lr : ∀ (f_t t : Nat) (M4 : Mm), n + 1 ≤ t + f_t → t ≤ n → wrI z n m t M M4 → VV l D cs ad 12 κ 1 M4 112 [(11, .int (nI t)), (9, .int (nI (wsN (wtz z) m n))), (10, .int (nI (cbN m n))), (8, .int (nI m)), (4, .int (nI (hcS z n 0 (m + 1)))), (5, .int (clW z n (hcS z n 0 (m + 1)))), (6, .int (mcS z n (m + 1))), (7, .ref (ad 140)), (0, .ref (ad 117)), (1, .ref (ad 135)), (2, .ref (ad 136)), (3, .ref (ad 137))] [] := by
                      intro f_t
                      induction f_t with
                      | zero => intro t M4 hk1_t hk2_t hI_t; exact absurd hk1_t (by omega)
                      | succ f_t ih_t =>
                        intro t M4 hk1_t hk2_t hI_t
                        have tM4 : LR M4 z n d e := lk_LR tM (fun i h1 h2 => hI_t.1.1 i (by omega))
                        refine r_iload C dL_cliques_112 0 rfl ?_
                        refine r_aload_n C dL_cliques_114 rfl 9 rfl ?_
                        refine r_iconst C (nI 0) dL_cliques_115 (by decide) ?_
                        refine r_iald C (id := 135) (n := 3) (a := 0) (by decide) rfl (by decide) (by decide) dL_cliques_116 ?_
                        refine r_topi (w := nI n) (tM4).1 ?_
                        refine r_icmpN_ge C 154 dL_cliques_117 (by decide) (by omega) (by omega) (fun h117 => ?_) (fun h117 => ?_)
                        ·
                          have hk9 : n = t := by omega
                          subst hk9
                          refine r_iinc C (nI (m + 1)) [(8, .int (nI (m + 1))), (11, .int (nI n)), (9, .int (nI (wsN (wtz z) m n))), (10, .int (nI (cbN m n))), (4, .int (nI (hcS z n 0 (m + 1)))), (5, .int (clW z n (hcS z n 0 (m + 1)))), (6, .int (mcS z n (m + 1))), (7, .ref (ad 140)), (0, .ref (ad 117)), (1, .ref (ad 135)), (2, .ref (ad 136)), (3, .ref (ad 137))] dL_cliques_154 (j := 3) rfl (inc_n m 1) (by decide) rfl ?_
                          refine r_goto C 17 dL_cliques_157 (by decide) ?_
                          refine r_lv (lv2 := [(8, .int (nI (m + 1))), (4, .int (nI (hcS z n 0 (m + 1)))), (5, .int (clW z n (hcS z n 0 (m + 1)))), (6, .int (mcS z n (m + 1))), (7, .ref (ad 140)), (0, .ref (ad 117)), (1, .ref (ad 135)), (2, .ref (ad 136)), (3, .ref (ad 137))]) [0, 4, 5, 6, 7, 8, 9, 10, 11] rfl ?_
                          exact ih_m (m + 1) _ (by omega) (by omega) ⟨hI_t.1, fun u hu => (hI_t.2 u hu).trans (if_pos hu)⟩
                        ·
                          refine r_iload C dL_cliques_120 3 rfl ?_
                          refine r_iload C dL_cliques_122 0 rfl ?_
                          refine r_ishr C dL_cliques_124 ?_
                          refine r_iconst C (nI 1) dL_cliques_125 (by decide) ?_
                          refine r_iand C dL_cliques_126 ?_
                          refine r_iconst C (nI 1) dL_cliques_127 (by decide) ?_
                          refine r_icmp_ne C 148 dL_cliques_128 (by decide) (fun h128 => ?_) (fun h128 => ?_)
                          ·
                            refine r_iinc C (nI (t + 1)) [(11, .int (nI (t + 1))), (9, .int (nI (wsN (wtz z) m n))), (10, .int (nI (cbN m n))), (8, .int (nI m)), (4, .int (nI (hcS z n 0 (m + 1)))), (5, .int (clW z n (hcS z n 0 (m + 1)))), (6, .int (mcS z n (m + 1))), (7, .ref (ad 140)), (0, .ref (ad 117)), (1, .ref (ad 135)), (2, .ref (ad 136)), (3, .ref (ad 137))] dL_cliques_148 (j := 0) rfl (inc_n t 1) (by decide) rfl ?_
                            refine r_goto C 112 dL_cliques_151 (by decide) ?_
                            refine r_lv (lv2 := [(11, .int (nI (t + 1))), (9, .int (nI (wsN (wtz z) m n))), (10, .int (nI (cbN m n))), (8, .int (nI m)), (4, .int (nI (hcS z n 0 (m + 1)))), (5, .int (clW z n (hcS z n 0 (m + 1)))), (6, .int (mcS z n (m + 1))), (7, .ref (ad 140)), (0, .ref (ad 117)), (1, .ref (ad 135)), (2, .ref (ad 136)), (3, .ref (ad 137))]) [0, 1, 2, 3, 4, 5, 6, 7, 8, 9, 10, 11] rfl ?_
                            exact ih_t (t + 1) _ (by omega) (by omega) (wr_k hI_t (wi_n (by omega) (by omega) (bt_off (by omega) (by omega) h128)))
                          ·
                            refine r_iload C dL_cliques_131 1 rfl ?_
                            refine r_topi (w := clW z n m) hcw.symm ?_
                            refine r_aload C dL_cliques_133 7 rfl ?_
                            refine r_iload C dL_cliques_135 0 rfl ?_
                            refine r_iaW C h1W (a := t) (by omega) dL_cliques_137 ?_
                            refine r_topi (w := (wiS z n t m)) ((hI_t.2 t (by omega)).trans (if_neg (Nat.lt_irrefl t))) ?_
                            refine r_icmp_le C 148 dL_cliques_138 (by decide) (fun h138 => ?_) (fun h138 => ?_)
                            ·
                              refine r_iinc C (nI (t + 1)) [(11, .int (nI (t + 1))), (9, .int (nI (wsN (wtz z) m n))), (10, .int (nI (cbN m n))), (8, .int (nI m)), (4, .int (nI (hcS z n 0 (m + 1)))), (5, .int (clW z n (hcS z n 0 (m + 1)))), (6, .int (mcS z n (m + 1))), (7, .ref (ad 140)), (0, .ref (ad 117)), (1, .ref (ad 135)), (2, .ref (ad 136)), (3, .ref (ad 137))] dL_cliques_148 (j := 0) rfl (inc_n t 1) (by decide) rfl ?_
                              refine r_goto C 112 dL_cliques_151 (by decide) ?_
                              refine r_lv (lv2 := [(11, .int (nI (t + 1))), (9, .int (nI (wsN (wtz z) m n))), (10, .int (nI (cbN m n))), (8, .int (nI m)), (4, .int (nI (hcS z n 0 (m + 1)))), (5, .int (clW z n (hcS z n 0 (m + 1)))), (6, .int (mcS z n (m + 1))), (7, .ref (ad 140)), (0, .ref (ad 117)), (1, .ref (ad 135)), (2, .ref (ad 136)), (3, .ref (ad 137))]) [0, 1, 2, 3, 4, 5, 6, 7, 8, 9, 10, 11] rfl ?_
                              exact ih_t (t + 1) _ (by omega) (by omega) (wr_k hI_t (wi_k hn8 hk hw (by omega) hm9 hcw (bt_on (by omega) (by omega) h128) h138))
                            ·
                              refine r_aload C dL_cliques_141 7 rfl ?_
                              refine r_iload C dL_cliques_143 0 rfl ?_
                              refine r_iload C dL_cliques_145 1 rfl ?_
                              refine r_isW C h1W (a := t) (by omega) dL_cliques_147 ?_
                              refine r_iinc C (nI (t + 1)) [(11, .int (nI (t + 1))), (9, .int (nI (wsN (wtz z) m n))), (10, .int (nI (cbN m n))), (8, .int (nI m)), (4, .int (nI (hcS z n 0 (m + 1)))), (5, .int (clW z n (hcS z n 0 (m + 1)))), (6, .int (mcS z n (m + 1))), (7, .ref (ad 140)), (0, .ref (ad 117)), (1, .ref (ad 135)), (2, .ref (ad 136)), (3, .ref (ad 137))] dL_cliques_148 (j := 0) rfl (inc_n t 1) (by decide) rfl ?_
                              refine r_goto C 112 dL_cliques_151 (by decide) ?_
                              refine r_lv (lv2 := [(11, .int (nI (t + 1))), (9, .int (nI (wsN (wtz z) m n))), (10, .int (nI (cbN m n))), (8, .int (nI m)), (4, .int (nI (hcS z n 0 (m + 1)))), (5, .int (clW z n (hcS z n 0 (m + 1)))), (6, .int (mcS z n (m + 1))), (7, .ref (ad 140)), (0, .ref (ad 117)), (1, .ref (ad 135)), (2, .ref (ad 136)), (3, .ref (ad 137))]) [0, 1, 2, 3, 4, 5, 6, 7, 8, 9, 10, 11] rfl ?_
                              exact ih_t (t + 1) _ (by omega) (by omega) (wr_y hI_t ((wi_y hn8 hk hw (by omega) hm9 hcw (bt_on (by omega) (by omega) h128) h138).trans hcw))
                    refine r_lv (lv2 := [(11, .int (nI 0)), (9, .int (nI (wsN (wtz z) m n))), (10, .int (nI (cbN m n))), (8, .int (nI m)), (4, .int (nI (hcS z n 0 (m + 1)))), (5, .int (clW z n (hcS z n 0 (m + 1)))), (6, .int (mcS z n (m + 1))), (7, .ref (ad 140)), (0, .ref (ad 117)), (1, .ref (ad 135)), (2, .ref (ad 136)), (3, .ref (ad 137))]) [0, 3, 4, 5, 1, 2, 6, 7, 8, 9, 10, 11] rfl ?_
                    exact Lr (n + 1) 0 _ (by omega) (by omega) ⟨hI_m.1, fun u hu => (hI_m.2 u hu).trans (if_neg (Nat.not_lt_zero u)).symm⟩
                  ·
                    refine r_iload C dL_cliques_105 4 rfl ?_
                    refine r_istore C [(6, .int (nI (cbN m n))), (4, .int (nI (hcS z n 0 (m + 1)))), (5, .int (clW z n (hcS z n 0 (m + 1)))), (11, .int (nI n)), (9, .int (nI (wsN (wtz z) m n))), (10, .int (nI (cbN m n))), (8, .int (nI m)), (7, .ref (ad 140)), (0, .ref (ad 117)), (1, .ref (ad 135)), (2, .ref (ad 136)), (3, .ref (ad 137))] dL_cliques_107 (by decide) rfl ?_
                    refine r_lve (lv2 := [(6, .int (mcS z n (m + 1))), (4, .int (nI (hcS z n 0 (m + 1)))), (5, .int (clW z n (hcS z n 0 (m + 1)))), (11, .int (nI n)), (9, .int (nI (wsN (wtz z) m n))), (10, .int (nI (cbN m n))), (8, .int (nI m)), (7, .ref (ad 140)), (0, .ref (ad 117)), (1, .ref (ad 135)), (2, .ref (ad 136)), (3, .ref (ad 137))]) (by rw [mc_y (by rw [hcw]; exact m1_ne (by omega)) h102, cb_on hn4 hm9]) ?_
                    refine r_iconst C (nI 0) dL_cliques_109 (by decide) ?_
                    refine r_istore C [(11, .int (nI 0)), (6, .int (mcS z n (m + 1))), (4, .int (nI (hcS z n 0 (m + 1)))), (5, .int (clW z n (hcS z n 0 (m + 1)))), (9, .int (nI (wsN (wtz z) m n))), (10, .int (nI (cbN m n))), (8, .int (nI m)), (7, .ref (ad 140)), (0, .ref (ad 117)), (1, .ref (ad 135)), (2, .ref (ad 136)), (3, .ref (ad 137))] dL_cliques_110 (by decide) rfl ?_
                    have Lr : ∀ (f_t t : Nat) (M4 : Mm), n + 1 ≤ t + f_t → t ≤ n → wrI z n m t M M4 → VV l D cs ad 12 κ 1 M4 112 [(11, .int (nI t)), (9, .int (nI (wsN (wtz z) m n))), (10, .int (nI (cbN m n))), (8, .int (nI m)), (4, .int (nI (hcS z n 0 (m + 1)))), (5, .int (clW z n (hcS z n 0 (m + 1)))), (6, .int (mcS z n (m + 1))), (7, .ref (ad 140)), (0, .ref (ad 117)), (1, .ref (ad 135)), (2, .ref (ad 136)), (3, .ref (ad 137))] [] := by
                      intro f_t
                      induction f_t with
                      | zero => intro t M4 hk1_t hk2_t hI_t; exact absurd hk1_t (by omega)
                      | succ f_t ih_t =>
                        intro t M4 hk1_t hk2_t hI_t
                        have tM4 : LR M4 z n d e := lk_LR tM (fun i h1 h2 => hI_t.1.1 i (by omega))
                        refine r_iload C dL_cliques_112 0 rfl ?_
                        refine r_aload_n C dL_cliques_114 rfl 9 rfl ?_
                        refine r_iconst C (nI 0) dL_cliques_115 (by decide) ?_
                        refine r_iald C (id := 135) (n := 3) (a := 0) (by decide) rfl (by decide) (by decide) dL_cliques_116 ?_
                        refine r_topi (w := nI n) (tM4).1 ?_
                        refine r_icmpN_ge C 154 dL_cliques_117 (by decide) (by omega) (by omega) (fun h117 => ?_) (fun h117 => ?_)
                        ·
                          have hk9 : n = t := by omega
                          subst hk9
                          refine r_iinc C (nI (m + 1)) [(8, .int (nI (m + 1))), (11, .int (nI n)), (9, .int (nI (wsN (wtz z) m n))), (10, .int (nI (cbN m n))), (4, .int (nI (hcS z n 0 (m + 1)))), (5, .int (clW z n (hcS z n 0 (m + 1)))), (6, .int (mcS z n (m + 1))), (7, .ref (ad 140)), (0, .ref (ad 117)), (1, .ref (ad 135)), (2, .ref (ad 136)), (3, .ref (ad 137))] dL_cliques_154 (j := 3) rfl (inc_n m 1) (by decide) rfl ?_
                          refine r_goto C 17 dL_cliques_157 (by decide) ?_
                          refine r_lv (lv2 := [(8, .int (nI (m + 1))), (4, .int (nI (hcS z n 0 (m + 1)))), (5, .int (clW z n (hcS z n 0 (m + 1)))), (6, .int (mcS z n (m + 1))), (7, .ref (ad 140)), (0, .ref (ad 117)), (1, .ref (ad 135)), (2, .ref (ad 136)), (3, .ref (ad 137))]) [0, 4, 5, 6, 7, 8, 9, 10, 11] rfl ?_
                          exact ih_m (m + 1) _ (by omega) (by omega) ⟨hI_t.1, fun u hu => (hI_t.2 u hu).trans (if_pos hu)⟩
                        ·
                          refine r_iload C dL_cliques_120 3 rfl ?_
                          refine r_iload C dL_cliques_122 0 rfl ?_
                          refine r_ishr C dL_cliques_124 ?_
                          refine r_iconst C (nI 1) dL_cliques_125 (by decide) ?_
                          refine r_iand C dL_cliques_126 ?_
                          refine r_iconst C (nI 1) dL_cliques_127 (by decide) ?_
                          refine r_icmp_ne C 148 dL_cliques_128 (by decide) (fun h128 => ?_) (fun h128 => ?_)
                          ·
                            refine r_iinc C (nI (t + 1)) [(11, .int (nI (t + 1))), (9, .int (nI (wsN (wtz z) m n))), (10, .int (nI (cbN m n))), (8, .int (nI m)), (4, .int (nI (hcS z n 0 (m + 1)))), (5, .int (clW z n (hcS z n 0 (m + 1)))), (6, .int (mcS z n (m + 1))), (7, .ref (ad 140)), (0, .ref (ad 117)), (1, .ref (ad 135)), (2, .ref (ad 136)), (3, .ref (ad 137))] dL_cliques_148 (j := 0) rfl (inc_n t 1) (by decide) rfl ?_
                            refine r_goto C 112 dL_cliques_151 (by decide) ?_
                            refine r_lv (lv2 := [(11, .int (nI (t + 1))), (9, .int (nI (wsN (wtz z) m n))), (10, .int (nI (cbN m n))), (8, .int (nI m)), (4, .int (nI (hcS z n 0 (m + 1)))), (5, .int (clW z n (hcS z n 0 (m + 1)))), (6, .int (mcS z n (m + 1))), (7, .ref (ad 140)), (0, .ref (ad 117)), (1, .ref (ad 135)), (2, .ref (ad 136)), (3, .ref (ad 137))]) [0, 1, 2, 3, 4, 5, 6, 7, 8, 9, 10, 11] rfl ?_
                            exact ih_t (t + 1) _ (by omega) (by omega) (wr_k hI_t (wi_n (by omega) (by omega) (bt_off (by omega) (by omega) h128)))
                          ·
                            refine r_iload C dL_cliques_131 1 rfl ?_
                            refine r_topi (w := clW z n m) hcw.symm ?_
                            refine r_aload C dL_cliques_133 7 rfl ?_
                            refine r_iload C dL_cliques_135 0 rfl ?_
                            refine r_iaW C h1W (a := t) (by omega) dL_cliques_137 ?_
                            refine r_topi (w := (wiS z n t m)) ((hI_t.2 t (by omega)).trans (if_neg (Nat.lt_irrefl t))) ?_
                            refine r_icmp_le C 148 dL_cliques_138 (by decide) (fun h138 => ?_) (fun h138 => ?_)
                            ·
                              refine r_iinc C (nI (t + 1)) [(11, .int (nI (t + 1))), (9, .int (nI (wsN (wtz z) m n))), (10, .int (nI (cbN m n))), (8, .int (nI m)), (4, .int (nI (hcS z n 0 (m + 1)))), (5, .int (clW z n (hcS z n 0 (m + 1)))), (6, .int (mcS z n (m + 1))), (7, .ref (ad 140)), (0, .ref (ad 117)), (1, .ref (ad 135)), (2, .ref (ad 136)), (3, .ref (ad 137))] dL_cliques_148 (j := 0) rfl (inc_n t 1) (by decide) rfl ?_
                              refine r_goto C 112 dL_cliques_151 (by decide) ?_
                              refine r_lv (lv2 := [(11, .int (nI (t + 1))), (9, .int (nI (wsN (wtz z) m n))), (10, .int (nI (cbN m n))), (8, .int (nI m)), (4, .int (nI (hcS z n 0 (m + 1)))), (5, .int (clW z n (hcS z n 0 (m + 1)))), (6, .int (mcS z n (m + 1))), (7, .ref (ad 140)), (0, .ref (ad 117)), (1, .ref (ad 135)), (2, .ref (ad 136)), (3, .ref (ad 137))]) [0, 1, 2, 3, 4, 5, 6, 7, 8, 9, 10, 11] rfl ?_
                              exact ih_t (t + 1) _ (by omega) (by omega) (wr_k hI_t (wi_k hn8 hk hw (by omega) hm9 hcw (bt_on (by omega) (by omega) h128) h138))
                            ·
                              refine r_aload C dL_cliques_141 7 rfl ?_
                              refine r_iload C dL_cliques_143 0 rfl ?_
                              refine r_iload C dL_cliques_145 1 rfl ?_
                              refine r_isW C h1W (a := t) (by omega) dL_cliques_147 ?_
                              refine r_iinc C (nI (t + 1)) [(11, .int (nI (t + 1))), (9, .int (nI (wsN (wtz z) m n))), (10, .int (nI (cbN m n))), (8, .int (nI m)), (4, .int (nI (hcS z n 0 (m + 1)))), (5, .int (clW z n (hcS z n 0 (m + 1)))), (6, .int (mcS z n (m + 1))), (7, .ref (ad 140)), (0, .ref (ad 117)), (1, .ref (ad 135)), (2, .ref (ad 136)), (3, .ref (ad 137))] dL_cliques_148 (j := 0) rfl (inc_n t 1) (by decide) rfl ?_
                              refine r_goto C 112 dL_cliques_151 (by decide) ?_
                              refine r_lv (lv2 := [(11, .int (nI (t + 1))), (9, .int (nI (wsN (wtz z) m n))), (10, .int (nI (cbN m n))), (8, .int (nI m)), (4, .int (nI (hcS z n 0 (m + 1)))), (5, .int (clW z n (hcS z n 0 (m + 1)))), (6, .int (mcS z n (m + 1))), (7, .ref (ad 140)), (0, .ref (ad 117)), (1, .ref (ad 135)), (2, .ref (ad 136)), (3, .ref (ad 137))]) [0, 1, 2, 3, 4, 5, 6, 7, 8, 9, 10, 11] rfl ?_
                              exact ih_t (t + 1) _ (by omega) (by omega) (wr_y hI_t ((wi_y hn8 hk hw (by omega) hm9 hcw (bt_on (by omega) (by omega) h128) h138).trans hcw))
                    refine r_lv (lv2 := [(11, .int (nI 0)), (9, .int (nI (wsN (wtz z) m n))), (10, .int (nI (cbN m n))), (8, .int (nI m)), (4, .int (nI (hcS z n 0 (m + 1)))), (5, .int (clW z n (hcS z n 0 (m + 1)))), (6, .int (mcS z n (m + 1))), (7, .ref (ad 140)), (0, .ref (ad 117)), (1, .ref (ad 135)), (2, .ref (ad 136)), (3, .ref (ad 137))]) [0, 4, 5, 6, 2, 3, 1, 7, 8, 9, 10, 11] rfl ?_
                    exact Lr (n + 1) 0 _ (by omega) (by omega) ⟨hI_m.1, fun u hu => (hI_m.2 u hu).trans (if_neg (Nat.not_lt_zero u)).symm⟩
              ·
                refine r_iload C dL_cliques_54 3 rfl ?_
                refine r_iload C dL_cliques_56 0 rfl ?_
                refine r_ishr C dL_cliques_58 ?_
                refine r_iconst C (nI 1) dL_cliques_59 (by decide) ?_
                refine r_iand C dL_cliques_60 ?_
                refine r_iconst C (nI 1) dL_cliques_61 (by decide) ?_
                refine r_icmp_ne C 77 dL_cliques_62 (by decide) (fun h62 => ?_) (fun h62 => ?_)
                ·
                  have hbv : m.testBit v = false := bt_off (by omega) (by omega) h62
                  refine r_lve (lv2 := [(11, .int (nI v)), (9, .int (nI (wsN (wtz z) m (v + 1)))), (10, .int (nI (cbN m (v + 1)))), (8, .int (nI m)), (4, .int (nI (hcS z n 0 m))), (5, .int (clW z n (hcS z n 0 m))), (6, .int (mcS z n m)), (7, .ref (ad 140)), (0, .ref (ad 117)), (1, .ref (ad 135)), (2, .ref (ad 136)), (3, .ref (ad 137))]) (by rw [ws_n hbv, cb_n hbv]) ?_
                  refine r_iinc C (nI (v + 1)) [(11, .int (nI (v + 1))), (9, .int (nI (wsN (wtz z) m (v + 1)))), (10, .int (nI (cbN m (v + 1)))), (8, .int (nI m)), (4, .int (nI (hcS z n 0 m))), (5, .int (clW z n (hcS z n 0 m))), (6, .int (mcS z n m)), (7, .ref (ad 140)), (0, .ref (ad 117)), (1, .ref (ad 135)), (2, .ref (ad 136)), (3, .ref (ad 137))] dL_cliques_77 (j := 0) rfl (inc_n v 1) (by decide) rfl ?_
                  refine r_goto C 46 dL_cliques_80 (by decide) ?_
                  refine r_lv (lv2 := [(11, .int (nI (v + 1))), (9, .int (nI (wsN (wtz z) m (v + 1)))), (10, .int (nI (cbN m (v + 1)))), (8, .int (nI m)), (4, .int (nI (hcS z n 0 m))), (5, .int (clW z n (hcS z n 0 m))), (6, .int (mcS z n m)), (7, .ref (ad 140)), (0, .ref (ad 117)), (1, .ref (ad 135)), (2, .ref (ad 136)), (3, .ref (ad 137))]) [0, 1, 2, 3, 4, 5, 6, 7, 8, 9, 10, 11] rfl ?_
                  exact ih_v (v + 1) (by omega) (by omega)
                ·
                  refine r_iload C dL_cliques_65 1 rfl ?_
                  refine r_aload_n C dL_cliques_67 rfl 10 rfl ?_
                  refine r_iload C dL_cliques_68 0 rfl ?_
                  refine r_iald C (id := 136) (n := 4) (a := v) (by decide) rfl (by omega) (by decide) dL_cliques_70 ?_
                  refine r_topi (w := nI (wtz z v)) ((tM3.2.2.1 v (by omega)).trans (hw v (by omega)).1) ?_
                  refine r_iadd C dL_cliques_71 ?_
                  refine r_topi (nI_add (wsN (wtz z) m v) (wtz z v)) ?_
                  refine r_istore C [(9, .int (nI ((wsN (wtz z) m v) + (wtz z v)))), (11, .int (nI v)), (10, .int (nI (cbN m v))), (8, .int (nI m)), (4, .int (nI (hcS z n 0 m))), (5, .int (clW z n (hcS z n 0 m))), (6, .int (mcS z n m)), (7, .ref (ad 140)), (0, .ref (ad 117)), (1, .ref (ad 135)), (2, .ref (ad 136)), (3, .ref (ad 137))] dL_cliques_72 (by decide) rfl ?_
                  refine r_iinc C (nI ((cbN m v) + 1)) [(10, .int (nI ((cbN m v) + 1))), (9, .int (nI ((wsN (wtz z) m v) + (wtz z v)))), (11, .int (nI v)), (8, .int (nI m)), (4, .int (nI (hcS z n 0 m))), (5, .int (clW z n (hcS z n 0 m))), (6, .int (mcS z n m)), (7, .ref (ad 140)), (0, .ref (ad 117)), (1, .ref (ad 135)), (2, .ref (ad 136)), (3, .ref (ad 137))] dL_cliques_74 (j := 2) rfl (inc_n (cbN m v) 1) (by decide) rfl ?_
                  have hbv : m.testBit v = true := bt_on (by omega) (by omega) h62
                  refine r_lve (lv2 := [(10, .int (nI (cbN m (v + 1)))), (9, .int (nI (wsN (wtz z) m (v + 1)))), (11, .int (nI v)), (8, .int (nI m)), (4, .int (nI (hcS z n 0 m))), (5, .int (clW z n (hcS z n 0 m))), (6, .int (mcS z n m)), (7, .ref (ad 140)), (0, .ref (ad 117)), (1, .ref (ad 135)), (2, .ref (ad 136)), (3, .ref (ad 137))]) (by rw [ws_y hbv, cb_y hbv]) ?_
                  refine r_iinc C (nI (v + 1)) [(11, .int (nI (v + 1))), (10, .int (nI (cbN m (v + 1)))), (9, .int (nI (wsN (wtz z) m (v + 1)))), (8, .int (nI m)), (4, .int (nI (hcS z n 0 m))), (5, .int (clW z n (hcS z n 0 m))), (6, .int (mcS z n m)), (7, .ref (ad 140)), (0, .ref (ad 117)), (1, .ref (ad 135)), (2, .ref (ad 136)), (3, .ref (ad 137))] dL_cliques_77 (j := 2) rfl (inc_n v 1) (by decide) rfl ?_
                  refine r_goto C 46 dL_cliques_80 (by decide) ?_
                  refine r_lv (lv2 := [(11, .int (nI (v + 1))), (9, .int (nI (wsN (wtz z) m (v + 1)))), (10, .int (nI (cbN m (v + 1)))), (8, .int (nI m)), (4, .int (nI (hcS z n 0 m))), (5, .int (clW z n (hcS z n 0 m))), (6, .int (mcS z n m)), (7, .ref (ad 140)), (0, .ref (ad 117)), (1, .ref (ad 135)), (2, .ref (ad 136)), (3, .ref (ad 137))]) [0, 2, 1, 3, 4, 5, 6, 7, 8, 9, 10, 11] rfl ?_
                  exact ih_v (v + 1) (by omega) (by omega)
          refine r_lv (lv2 := [(11, .int (nI 0)), (9, .int (nI (wsN (wtz z) m 0))), (10, .int (nI (cbN m 0))), (8, .int (nI m)), (4, .int (nI (hcS z n 0 m))), (5, .int (clW z n (hcS z n 0 m))), (6, .int (mcS z n m)), (7, .ref (ad 140)), (0, .ref (ad 117)), (1, .ref (ad 135)), (2, .ref (ad 136)), (3, .ref (ad 137))]) [0, 2, 1, 3, 4, 5, 6, 7, 8, 9, 10, 11] rfl ?_
          exact Lq (n + 1) 0 (by omega) (by omega)
  refine r_lv (lv2 := [(8, .int (nI 0)), (4, .int (nI (hcS z n 0 0))), (5, .int (clW z n (hcS z n 0 0))), (6, .int (mcS z n 0)), (7, .ref (ad 140)), (0, .ref (ad 117)), (1, .ref (ad 135)), (2, .ref (ad 136)), (3, .ref (ad 137))]) [0, 4, 3, 2, 1, 5, 6, 7, 8] rfl ?_
  exact Lp ((2 ^ n) + 1) 0 _ (by omega) (Nat.zero_le _) ⟨o1.rf 140 M, fun u hu => (hw0 u).trans wi_0.symm⟩
theorem c_L_cliques (l : Launch) (D : va_G) (cs : Nat → ClassId) (ad : Nat → Nat) (M : Mm) (z : Nat → Int32) (n d s : Nat) (e : Nat → Nat → Bool) (sM : CS M z n d e s) (tM : LR M z n d e) (h0 : ad 1000 = 0) : ∀ sz : Nat, Met l yL_cliques (.code yL_cliques cL_cliques 12 (some .boolean) :: TT) { frames := 43, cells := 1, slots := 6, locals := 1064 } (va_Pc [.ref (ad 117), .ref (ad 135), .ref (ad 136), .ref (ad 137)] (fun U9 => U9.heap.size = sz ∧ wB D cs ad (fA ad sz) M U9 ∧ xX (fA ad sz) U9 U9.heap)) (va_Qi (fun r M2 => r = bI true ∧ lkW M M2) (wB D cs ad (fA ad sz)) (fA ad sz)) 1 6 (fA ad sz) := by
  refine su_Z (by decide) (Nat.le_of_ble_eq_true rfl) (fun κ C hN E => ?_)
  refine r_lv (lv2 := [(0, .ref (ad 117)), (1, .ref (ad 135)), (2, .ref (ad 136)), (3, .ref (ad 137))]) [0, 1, 2, 3] rfl ?_
  refine r_iconst C (nI 0) dL_cliques_0 (by decide) ?_
  refine r_istore C [(4, .int (nI 0)), (0, .ref (ad 117)), (1, .ref (ad 135)), (2, .ref (ad 136)), (3, .ref (ad 137))] dL_cliques_1 (by decide) rfl ?_
  refine r_iconst C (nI 0) dL_cliques_3 (by decide) ?_
  refine r_istore C [(5, .int (nI 0)), (4, .int (nI 0)), (0, .ref (ad 117)), (1, .ref (ad 135)), (2, .ref (ad 136)), (3, .ref (ad 137))] dL_cliques_4 (by decide) rfl ?_
  refine r_iconst C (nI 0) dL_cliques_6 (by decide) ?_
  refine r_istore C [(6, .int (nI 0)), (5, .int (nI 0)), (4, .int (nI 0)), (0, .ref (ad 117)), (1, .ref (ad 135)), (2, .ref (ad 136)), (3, .ref (ad 137))] dL_cliques_7 (by decide) rfl ?_
  refine r_iconst C (nI 4) dL_cliques_9 (by decide) ?_
  refine r_newaW C hN h0 (by decide) dL_cliques_10 (fun q C2 hN2 hq => ?_)
  refine r_astore C2 [(7, .ref q), (6, .int (nI 0)), (5, .int (nI 0)), (4, .int (nI 0)), (0, .ref (ad 117)), (1, .ref (ad 135)), (2, .ref (ad 136)), (3, .ref (ad 137))] dL_cliques_12 (by decide) rfl ?_
  refine r_lve (lv2 := [(7, .ref (adW ad q 140)), (6, .int (nI 0)), (5, .int (nI 0)), (4, .int (nI 0)), (0, .ref (adW ad q 117)), (1, .ref (adW ad q 135)), (2, .ref (adW ad q 136)), (3, .ref (adW ad q 137))]) rfl ?_
  refine c_L_cliquesT l D cs (adW ad q) (mA M 140 (fun _ => 0)) z n d s e (lk_CS sM (fun i hi => mA_ne _ (by omega))) (lk_LR tM (fun i h1 h2 => mA_ne _ (by omega))) rfl (fun u => by rw [mA_eq]; rfl) C2 hN2 (fun u M2 pc lv v hu d hn hp => ?_)
  exact r_backW h0 hq (E u M2 pc lv v hu d hn ⟨hp.1, fun i h3 h4 => ⟨((hp.2 i h3 h4).1).trans (mA_ne _ h4), (hp.2 i h3 h4).2⟩⟩)
