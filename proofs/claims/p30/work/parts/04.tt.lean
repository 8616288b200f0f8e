/-! ===== the universal list of words, the world, the judgement VV (written by wip/whole/gen/base.py) ===== -/
/-- the words that any method may be handed: the good ones of the law's own -/
def TT : List Cond := lw_tbl.filter goodWord
theorem tt_m {w : Cond} (i : Nat) (h : lw_tbl[i]? = some w) (g : goodWord w = true) : w ∈ TT := List.mem_filter.mpr ⟨List.mem_of_getElem? h, g⟩
theorem tt_g {w : Cond} (h : w ∈ TT) : (w.onTables && w.keeps) = true ∨ ∃ ty, w = .arrayClass ty := good_of_word (List.mem_filter.mp h).2
theorem tt_in {ws : List Cond} (h : ∀ w ∈ ws, w ∈ TT) : GoodIn TT ws := fun w hw => ⟨h w hw, tt_g (h w hw)⟩
theorem tt_c {w : Cond} {ws : List Cond} (h : w ∈ TT) (t : ∀ v ∈ ws, v ∈ TT) : ∀ v ∈ w :: ws, v ∈ TT := fun v hv => (List.mem_cons.mp hv).elim (fun e => by rw [e]; exact h) (t v)
theorem tt_n : ∀ v ∈ ([] : List Cond), v ∈ TT := fun _ h => nomatch h
theorem tt_S {own : String} {idx : Nat} {y : MethodName} {b : ByteArray} {n : Nat} {rt : Option FieldType} (h1 : Cond.methodLink own idx y ∈ TT) (h2 : Cond.static y ∈ TT) (h3 : Cond.initialized own ∈ TT) (h4 : Cond.code y b n rt ∈ TT) : GoodIn TT (wsS own idx y (.code y b n rt :: TT)) := tt_in (tt_c h1 (tt_c h2 (tt_c h3 (tt_c h4 fun _ h => h))))
theorem tt_S2 {own : String} {idx : Nat} {y : MethodName} {b : ByteArray} {n : Nat} {rt : Option FieldType} (h1 : Cond.methodLink own idx y ∈ TT) (h2 : Cond.static y ∈ TT) (h3 : Cond.initialized y.cls ∈ TT) (h4 : Cond.code y b n rt ∈ TT) : GoodIn TT (va_wsS own idx y (.code y b n rt :: TT)) := tt_in (tt_c h1 (tt_c h2 (tt_c h3 (tt_c h4 fun _ h => h))))
theorem tt_V {own C : String} {idx : Nat} {y : MethodName} {b : ByteArray} {n : Nat} {rt : Option FieldType} (h1 : Cond.methodLink own idx y ∈ TT) (h2 : Cond.instanceMethod y ∈ TT) (h5 : Cond.selects C y y ∈ TT) (h3 : Cond.initialized C ∈ TT) (h4 : Cond.code y b n rt ∈ TT) : GoodIn TT (wsV own idx C y (.code y b n rt :: TT)) := tt_in (tt_c h1 (tt_c h2 (tt_c h5 (tt_c h3 (tt_c h4 fun _ h => h)))))
