/-! MATH, AND SMALL TOOLS OF WALKS -/
theorem mt_ini : Cond.initialized "java/lang/Math" ∈ TB := List.mem_filter.mpr (by decide +kernel : Cond.initialized "java/lang/Math" ∈ lw_tbl ∧ goodWord (Cond.initialized "java/lang/Math") = true)
theorem mt_abs : Cond.static Lib.Math.abs.name ∈ TB ∧ Cond.code Lib.Math.abs.name Lib.Math.abs.code 1 (some .int) ∈ TB := ⟨List.mem_filter.mpr (by decide +kernel), List.mem_filter.mpr (by decide +kernel)⟩
theorem mt_max : Cond.static Lib.Math.max.name ∈ TB ∧ Cond.code Lib.Math.max.name Lib.Math.max.code 2 (some .int) ∈ TB := ⟨List.mem_filter.mpr (by decide +kernel), List.mem_filter.mpr (by decide +kernel)⟩
theorem mt_min : Cond.static Lib.Math.min.name ∈ TB ∧ Cond.code Lib.Math.min.name Lib.Math.min.code 2 (some .int) ∈ TB := ⟨List.mem_filter.mpr (by decide +kernel), List.mem_filter.mpr (by decide +kernel)⟩
theorem cat_sum0 {E : Ev} {st : List AV} {n : Nat} (h : (st.map vcat).sum + 13 ≤ n) : ((st.map (cv E)).map fun v => v.category).sum + 13 ≤ n := by
  have : (st.map (cv E)).map (fun v => v.category) = st.map vcat := by rw [List.map_map]; congr 1; funext v; exact cv_vcat
  rw [this]; exact h
section RX
variable {E : Ev} {R : Room} {k : MK} {Z : ZT} {ca sl pc : Nat} {lv : List (Option AV)} {st : List AV} {M : Mem}
theorem n_mabs {idx : Nat} {x : Int32} (hd : decode k.2.1 pc = .ok (.invokestatic idx, 3)) (hl0 : Cond.methodLink k.1.cls idx Lib.Math.abs.name ∈ TB) (hR : 1 ≤ R.frames ∧ (st.map vcat).sum + 13 ≤ R.locals) (hf : ca ≤ R.cells ∧ sl ≤ R.slots) (h : G E R k Z ca sl (pc + 3) lv (vI (if 0 ≤ x then x else 0 - x) :: st) M) : G E R k Z ca sl pc lv (vI x :: st) M :=
  fun p l e s m args below meth c H locs ls C hw hy hS hl => va_mabs C.1 C.2.1 (C.2.2.1.trans hl.2.1.symm) C.2.2.2.2.2.1 (C.2.2.2.2.2.2.1 _ hl0) (C.2.2.2.2.2.2.1 _ mt_abs.1) (C.2.2.2.2.2.2.1 _ mt_ini) (C.2.2.2.2.2.2.1 _ mt_abs.2) hR.1 (cat_sum0 hR.2) hf.1 hf.2 hd (h p l e s m args below meth c H locs ls C hw hy hS hl)
theorem n_mmax {idx : Nat} {x y : Int32} (hd : decode k.2.1 pc = .ok (.invokestatic idx, 3)) (hl0 : Cond.methodLink k.1.cls idx Lib.Math.max.name ∈ TB) (hR : 1 ≤ R.frames ∧ (st.map vcat).sum + 13 ≤ R.locals) (hf : ca ≤ R.cells ∧ sl ≤ R.slots) (h : G E R k Z ca sl (pc + 3) lv (vI (if x < y then y else x) :: st) M) : G E R k Z ca sl pc lv (vI y :: vI x :: st) M :=
  fun p l e s m args below meth c H locs ls C hw hy hS hl => va_mmax C.1 C.2.1 (C.2.2.1.trans hl.2.1.symm) C.2.2.2.2.2.1 (C.2.2.2.2.2.2.1 _ hl0) (C.2.2.2.2.2.2.1 _ mt_max.1) (C.2.2.2.2.2.2.1 _ mt_ini) (C.2.2.2.2.2.2.1 _ mt_max.2) hR.1 (cat_sum0 hR.2) hf.1 hf.2 hd (h p l e s m args below meth c H locs ls C hw hy hS hl)
theorem n_mmin {idx : Nat} {x y : Int32} (hd : decode k.2.1 pc = .ok (.invokestatic idx, 3)) (hl0 : Cond.methodLink k.1.cls idx Lib.Math.min.name ∈ TB) (hR : 1 ≤ R.frames ∧ (st.map vcat).sum + 13 ≤ R.locals) (hf : ca ≤ R.cells ∧ sl ≤ R.slots) (h : G E R k Z ca sl (pc + 3) lv (vI (if y < x then y else x) :: st) M) : G E R k Z ca sl pc lv (vI y :: vI x :: st) M :=
  fun p l e s m args below meth c H locs ls C hw hy hS hl => va_mmin C.1 C.2.1 (C.2.2.1.trans hl.2.1.symm) C.2.2.2.2.2.1 (C.2.2.2.2.2.2.1 _ hl0) (C.2.2.2.2.2.2.1 _ mt_min.1) (C.2.2.2.2.2.2.1 _ mt_ini) (C.2.2.2.2.2.2.1 _ mt_min.2) hR.1 (cat_sum0 hR.2) hf.1 hf.2 hd (h p l e s m args below meth c H locs ls C hw hy hS hl)
theorem g_top {x : Int32} (h : ∀ y : Int32, y = x → G E R k Z ca sl pc lv (vI y :: st) M) : G E R k Z ca sl pc lv (vI x :: st) M := h x rfl
theorem g_topL {x : Int64} (h : ∀ y : Int64, y = x → G E R k Z ca sl pc lv (vL y :: st) M) : G E R k Z ca sl pc lv (vL x :: st) M := h x rfl
theorem g_mem (h : ∀ M', M' = M → G E R k Z ca sl pc lv st M') : G E R k Z ca sl pc lv st M := h M rfl
theorem n_alenS {t n : Nat} (hd : decode k.2.1 pc = .ok (.arraylength, 1)) (ht : t < 4) (hn : (roV t).length = n) (h : G E R k Z ca sl (pc + 1) lv (vI (nI n) :: st) M) : G E R k Z ca sl pc lv (vS t :: st) M := g_alenS hd ht (hn ▸ h)
theorem n_ialdS {t j : Nat} {i v : Int32} (hd : decode k.2.1 pc = .ok (.iaload, 1)) (ht : t < 4) (hi : i = nI j) (hj : j < (roV t).length) (hv : (roV t).getD j 0 = v) (h : G E R k Z ca sl (pc + 1) lv (vI v :: st) M) : G E R k Z ca sl pc lv (vI i :: vS t :: st) M := g_ialdS hd ht hi hj (hv ▸ h)
end RX
theorem qI {Q : QT} {M : Mem} {x y : Int32} (h : Q (some (vI x)) M) (e : y = x) : Q (some (vI y)) M := e ▸ h
theorem qL {Q : QT} {M : Mem} {x y : Int64} (h : Q (some (vL x)) M) (e : y = x) : Q (some (vL y)) M := e ▸ h
theorem qM {Q : QT} {r : Option AV} {M M' : Mem} (h : Q r M) (e : M' = M) : Q r M' := e ▸ h
theorem sw_out {x : Int32} {lo hi : Int} (h : ¬ (lo ≤ x.toInt ∧ x.toInt ≤ hi)) : x.toInt < lo ∨ hi < x.toInt := by omega
theorem sw_ne {x v : Int32} (h : ¬ x = v) : ¬ x.toInt = v.toInt := fun q => h (Int32.toInt_inj.mp q)
