/-! ===== the class: a reference handed back, texts (written by wip/whole/gen/cls6.py) ===== -/
section CV3
variable {l : Launch} {D : va_G} {cs : Nat → ClassId} {ad : Nat → Nat} {nL : Nat} {κ : Kx} {u : Nat} {M : Mm} {pc : Nat} {lv : List (Nat × Value)} {st : List Value} {cc : ByteArray} {own : String} {fr lo U : Nat}
/-- a call that hands back a known thing -/
theorem r_pcallV_r (C : CX D cs ad cc nL own fr lo U κ) (hu : u ≤ U) {y : MethodName} {b : ByteArray} {n nA idx k9 : Nat} {rt : Option FieldType} {rm : Room} {rest : List Value} {Cn : String} {ci id : Nat} {q9 : vw_C} {fs : List Value} (As9 : List Value) (hM : ∀ sz, Met l y (.code y b n rt :: TT) rm (va_Pc (.ref (ad id) :: As9) (fun U9 => U9.heap.size = sz ∧ wB D cs ad (fA ad sz) M U9)) (va_Qr (fun M2 => M2 = M) (fun M2 ra t => ra = ad k9 ∧ wB D cs ad (fA ad sz) M2 t) (fA ad sz)) 0 0 (fA ad sz)) (hG : GoodIn TT (wsV own idx Cn y (.code y b n rt :: TT))) (hrm : rm.cells = 0 ∧ rm.slots = 0) (hyd : y.cls = Cn ∧ y.cls ≠ "java/lang/invoke/MethodHandle" ∧ y.cls ≠ "java/lang/invoke/VarHandle" ∧ (parseMethodDescriptor y.desc).map (fun d => d.parameters.length) = some nA) (hR : rm.frames + 1 ≤ fr ∧ 8 + (n + 11) + rm.locals ≤ lo) (hid : id < 140) (he : wF cs ad id (M.1 id) (M.2 id) = .inr (ci, fs)) (hc : vwCl[ci]? = some q9) (hq9 : q9.1 = Cn) (hn : As9.length = nA) (hst : st = As9.reverse ++ .ref (ad id) :: rest) (hW8 : (rest.map fun v => v.category).sum ≤ 8) (d : decode cc pc = .ok (.invokevirtual idx, 3)) (k : VV l D cs ad nL κ u M (pc + 3) lv (.ref (ad k9) :: rest)) : VV l D cs ad nL κ u M pc lv st := by
  obtain ⟨p, e, R, s, m, args, below, meth, c, c0, s0, Q⟩ := κ
  obtain ⟨hx, hb, hml, hown, hts, hK, hD, hfr, hlo, hc0, hs0⟩ := C
  intro H locs ls hP hS hl
  subst hst
  refine va_callr (va_runV (As := As9) (rest := rest) ⟨hx, hb, hml, hown, hts⟩ (hM H.size) (cwV nA hts hG rfl hrm.1 hrm.2 hyd ⟨by rw [hfr]; exact hR.1, by rw [hlo]; exact hR.2⟩) ⟨fb_B, ?_, pr_B hK hP (hD M)⟩ rfl hn hl.1 rfl (lv_room hW8) d ⟨by omega, by omega⟩) hS (fun q _ h => fA_mono hS.1 h) (fun q h => fA_mono hS.1 h) (fun M2 ra t H1 locs1 ht hvm hw hB hz1 hk1 hS1 => ?_)
  · have h9 := va_recv hK hP hc (show (wW cs ad M)[id]? = _ by rw [wW_get cs ad M hid, he])
    rw [hq9] at h9
    exact h9
  · obtain ⟨hra, hB⟩ := hB
    subst hra; subst hw
    exact k H1 locs1 ls (by rw [← ht]; exact hB.1) hS1 hl
end CV3
def goN (ct : Nat → Nat) (n k : Nat) : Bool := decide (if k % 3 = 0 then 48 ≤ ct k ∧ ct k < 48 + n - 1 else if k % 3 = 1 then ct (k - 1) < ct k ∧ ct k < 48 + n else ct k = 44)
