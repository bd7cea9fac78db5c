/-! STATICS, RETURNS, CALLS -/
def psh : Option AV → List AV → List AV
  | none, st => st
  | some v, st => v :: st
def vcat (v : AV) : Nat := if nl (some v) then 1 else 2
theorem cv_vcat {E : Ev} {v : AV} : (cv E v).category = vcat v := by
  rcases v with x | x | x | x | x <;> rfl
theorem psh_map {E : Ev} {r : Option AV} {st : List AV} : (psh r st).map (cv E) = (r.map (cv E)).toList ++ st.map (cv E) := by cases r <;> rfl
/-- a method's own facts in the tables -/
def MF (k : MK) (n : Nat) : Prop := Cond.code k.1 k.2.1 k.2.2.1 k.2.2.2 ∈ TB ∧ Cond.initialized k.1.cls ∈ TB ∧ plainName k.1.cls = true ∧ (k.1.cls ≠ "java/lang/invoke/MethodHandle" ∧ k.1.cls ≠ "java/lang/invoke/VarHandle" ∧ (parseMethodDescriptor k.1.desc).map (fun d => d.parameters.length) = some n)
def MV (k : MK) (n : Nat) : Prop := MF k n ∧ Cond.instanceMethod k.1 ∈ TB ∧ Cond.selects k.1.cls k.1 k.1 ∈ TB
def MS (k : MK) (n : Nat) : Prop := MF k n ∧ Cond.static k.1 ∈ TB
def MI (k : MK) (n : Nat) : Prop := MF k n ∧ Cond.instanceMethod k.1 ∈ TB ∧ k.1.name = "<init>"
theorem ws_good {k : MK} {n : Nat} (h : MF k n) : GoodIn TB (ws_ k) := by
  intro w hw
  have hm : w ∈ TB := by
    rcases List.mem_cons.mp hw with rfl | hw
    · exact h.1
    · exact hw
  exact ⟨hm, TB_good hm⟩
theorem blind {E : Ev} {as : List Value} {M : Mem} : FrameBlind (va_Pc as (fun U => Wst E U U.heap ∧ Wdy E M U.heap)) := fun a U g mk h => ⟨h.1, Wst.same (u := U) (U := U.calling g mk a) rfl h.2.1, h.2.2⟩
theorem pre_at {E : Ev} {s : State} {H : Heap} {locs : List Loc} {M : Mem} (hw : Wst E s s.heap) (hy : Wdy E M H) (hS : va_S (eZ E) s.heap H locs) {U : State} (hU : U.heap = H) (hW : s.WarmedH U.vm) : Wst E U U.heap ∧ Wdy E M U.heap := by
  rw [hU]
  exact ⟨(hw.kept hS.1 hS.2.1).moved hW, hy⟩
section RC
variable {E : Ev} {R : Room} {k : MK} {Z : ZT} {ca sl pc : Nat} {lv : List (Option AV)} {st : List AV} {M : Mem}
/-- behind a call -/
theorem g_back {p : Program} {l : Launch} {e : Env} {s : State} {m : MethodId} {args : Array Value} {below : List Frame} {meth : Method} {c : Code} {H : Heap} {locs : List Loc} {ls : Array Slot} {mc ms : Nat} {st0 : List Value} {a : Array Value}
    (hr : va_Run p l e R s m args below meth c H locs ca sl mc ms (F0 m pc ls st0) (st.map (cv E)) (QC E (fun r M' => G E R k Z (ca + mc) (sl + ms) (pc + 3) lv (psh r st) M') a) (eZ E))
    (C : Cx p s m args meth c k) (hw : Wst E s s.heap) (hS : va_S (eZ E) s.heap H locs) (hl : hasL E ls k.2.2.1 lv) : W p l e R s m args below meth c H locs ca sl (Z below args s) (F0 m pc ls st0) := by
  intro T hT X
  obtain ⟨v, st₀, t, T', L, h0, X', hL, e1, e2, ⟨⟨r, M', ho, hG, hy'⟩, hF⟩, hgo⟩ := hr T hT X
  have hv : v = r.map (cv E) := Outcome.returned.inj ho
  have hS' : va_S (eZ E) s.heap t.heap (locs ++ L) := by
    refine ⟨Nat.le_trans hS.1 (by rw [← h0]; exact hF.1), fun q h1 h2 => ?_, fun q hq => ?_⟩
    · rw [hF.2 q (by rw [h0]; exact Nat.lt_of_lt_of_le h1 hS.1) h2, h0]
      exact hS.2.1 q h1 h2
    · rcases List.mem_append.mp hq with h | h
      · exact hS.2.2 q h
      · exact hL q h
  have hk := hG p l e s m args below meth c t.heap (locs ++ L) ls C hw hy' hS' hl
  rw [psh_map, ← hv] at hk
  obtain ⟨t2, a1, b1⟩ := hk T' e1 X'
  exact ⟨t2, hgo t2 a1, b1⟩
theorem cat_sum {E : Ev} {st : List AV} (h : (st.map vcat).sum ≤ 8) : 2 * (0 : Nat) + ((st.map (cv E)).map fun v => v.category).sum ≤ 8 := by
  have : (st.map (cv E)).map (fun v => v.category) = st.map vcat := by rw [List.map_map]; congr 1; funext v; exact cv_vcat
  rw [this]; omega
theorem g_invV {kk : MK} {n n' idx mc ms c : Nat} {a : Id} {q : vw_C} (as : List AV) (hd : decode k.2.1 pc = .ok (.invokevirtual idx, 3)) (mf : MV kk n) (hl0 : Cond.methodLink k.1.cls idx kk.1 ∈ TB) (hs : shp a = (0, c)) (ha : vld a = true) (hn : off a < mN M) (hc : classes[c]? = some q) (hq : q.1 = kk.1.cls) (hlen : as.length = n)
    (hR : n' + 1 ≤ R.frames ∧ 8 + (kk.2.2.1 + 11) + 44 * n' ≤ R.locals) (hf : ca + mc ≤ R.cells ∧ sl + ms ≤ R.slots) (hW : (st.map vcat).sum ≤ 8)
    (hM : Mth E n' mc ms kk (vR a :: as) M (fun r M' => G E R k Z (ca + mc) (sl + ms) (pc + 3) lv (psh r st) M')) : G E R k Z ca sl pc lv (as.reverse ++ vR a :: st) M := by
  intro p l e s m args below meth c0 H locs ls C hw hy hS hl
  have hts := C.2.2.2.2.2.2.1
  obtain ⟨⟨mf1, mf2, mf3, mf4⟩, mi, msl⟩ := mf
  obtain ⟨cell, q1, q2, q3, q4⟩ := hy.ob hs ha hn
  have hcl := (hw.1 c _ hc).2.1
  have hB : CallB R s args k.1.cls idx kk.1 kk.2.1 kk.2.2.1 kk.2.2.2 (ws_ kk) (rm n' mc ms) mc ms n := callB_of n hts (ws_good ⟨mf1, mf2, mf3, mf4⟩) rfl rfl rfl (hts _ mf2) (hts _ hl0) mf4 hR
  refine g_back (va_runV (C := kk.1.cls) (As := as.map (cv E)) (b := ad E a) (rest := st.map (cv E)) (nL := k.2.2.1) (g := F0 m pc ls ((as.reverse ++ vR a :: st).map (cv E))) ⟨C.1, C.2.1, C.2.2.1, C.2.2.2.2.2.1, hts⟩ (hM l) ⟨hB, hts _ mi, hts _ msl⟩ ⟨blind, ⟨cell, q1, by rw [q3]; rfl, by rw [← hq, q2]; exact hcl⟩, fun U hU hWU => ⟨rfl, pre_at hw hy hS hU hWU⟩⟩ rfl (by simpa using hlen) (hl.2.1) (by simp [cv]) (cat_sum hW) hd hf) C hw hS hl
theorem g_invS {kk : MK} {n n' idx mc ms : Nat} (as : List AV) (hd : decode k.2.1 pc = .ok (.invokestatic idx, 3)) (mf : MS kk n) (hl0 : Cond.methodLink k.1.cls idx kk.1 ∈ TB) (hlen : as.length = n)
    (hR : n' + 1 ≤ R.frames ∧ 8 + (kk.2.2.1 + 11) + 44 * n' ≤ R.locals) (hf : ca + mc ≤ R.cells ∧ sl + ms ≤ R.slots) (hW : (st.map vcat).sum ≤ 8)
    (hM : Mth E n' mc ms kk as M (fun r M' => G E R k Z (ca + mc) (sl + ms) (pc + 3) lv (psh r st) M')) : G E R k Z ca sl pc lv (as.reverse ++ st) M := by
  intro p l e s m args below meth c0 H locs ls C hw hy hS hl
  have hts := C.2.2.2.2.2.2.1
  obtain ⟨⟨mf1, mf2, mf3, mf4⟩, mst⟩ := mf
  have hB : CallB R s args k.1.cls idx kk.1 kk.2.1 kk.2.2.1 kk.2.2.2 (ws_ kk) (rm n' mc ms) mc ms n := callB_of n hts (ws_good ⟨mf1, mf2, mf3, mf4⟩) rfl rfl rfl (hts _ mf2) (hts _ hl0) mf4 hR
  refine g_back (va_runS (As := as.map (cv E)) (rest := st.map (cv E)) (nL := k.2.2.1) (g := F0 m pc ls ((as.reverse ++ st).map (cv E))) ⟨C.1, C.2.1, C.2.2.1, C.2.2.2.2.2.1, hts⟩ (hM l) ⟨hB, hts _ mst⟩ ⟨blind, fun U hU hWU => ⟨rfl, pre_at hw hy hS hU hWU⟩⟩ rfl (by simpa using hlen) (hl.2.1) (by simp) (cat_sum hW) hd hf) C hw hS hl
theorem g_invSN {kk : MK} {n n' idx mc ms : Nat} {host : String} (as : List AV) (hd : decode k.2.1 pc = .ok (.invokestatic idx, 3)) (mf : MS kk n) (hl0 : (k.1.cls, idx, kk.1, host) ∈ NBm) (hlen : as.length = n)
    (hR : n' + 1 ≤ R.frames ∧ 8 + (kk.2.2.1 + 11) + 44 * n' ≤ R.locals) (hf : ca + mc ≤ R.cells ∧ sl + ms ≤ R.slots) (hW : (st.map vcat).sum ≤ 8)
    (hM : Mth E n' mc ms kk as M (fun r M' => G E R k Z (ca + mc) (sl + ms) (pc + 3) lv (psh r st) M')) : G E R k Z ca sl pc lv (as.reverse ++ st) M := by
  intro p l e s m args below meth c0 H locs ls C hw hy hS hl
  have hts := C.2.2.2.2.2.2.1
  obtain ⟨⟨mf1, mf2, mf3, mf4⟩, mst⟩ := mf
  refine g_back (va_runSN (host := host) (As := as.map (cv E)) (rest := st.map (cv E)) (nL := k.2.2.1) (g := F0 m pc ls ((as.reverse ++ st).map (cv E))) ⟨C.1, C.2.1, C.2.2.1, C.2.2.2.2.2.1, hts⟩ (hM l) ⟨va_cnB n hts (ws_good ⟨mf1, mf2, mf3, mf4⟩) rfl rfl rfl (hw.2.2.1.1.2 _ hl0) (hts _ mf2) mf4 hR, hts _ mst, trivial⟩ ⟨blind, fun U hU hWU => ⟨rfl, pre_at hw hy hS hU hWU⟩⟩ rfl (by simpa using hlen) (hl.2.1) (by simp) (cat_sum hW) hd hf) C hw hS hl
theorem g_invI {kk : MK} {n n' idx mc ms : Nat} {a : Id} (as : List AV) (hd : decode k.2.1 pc = .ok (.invokespecial idx, 3)) (mf : MI kk n) (hret : kk.2.2.2 = none) (hl0 : Cond.methodLink k.1.cls idx kk.1 ∈ TB) (hlen : as.length = n)
    (hR : n' + 1 ≤ R.frames ∧ 8 + (kk.2.2.1 + 11) + 44 * n' ≤ R.locals) (hf : ca + mc ≤ R.cells ∧ sl + ms ≤ R.slots) (hW : (st.map vcat).sum ≤ 8)
    (hM : Mth E n' mc ms kk (vR a :: as) M (fun r M' => G E R k Z (ca + mc) (sl + ms) (pc + 3) lv (psh r st) M')) : G E R k Z ca sl pc lv (as.reverse ++ vR a :: st) M := by
  intro p l e s m args below meth c0 H locs ls C hw hy hS hl
  have hts := C.2.2.2.2.2.2.1
  obtain ⟨⟨mf1, mf2, mf3, mf4⟩, mi, mn⟩ := mf
  obtain ⟨y, b, mx, rt⟩ := kk
  cases hret
  have hB : CallB R s args k.1.cls idx y b mx none (ws_ (y, b, mx, none)) (rm n' mc ms) mc ms n := callB_of n hts (ws_good ⟨mf1, mf2, mf3, mf4⟩) rfl rfl rfl (hts _ mf2) (hts _ hl0) mf4 hR
  refine g_back (va_runI (As := as.map (cv E)) (b := ad E a) (rest := st.map (cv E)) (nL := k.2.2.1) (g := F0 m pc ls ((as.reverse ++ vR a :: st).map (cv E))) ⟨C.1, C.2.1, C.2.2.1, C.2.2.2.2.2.1, hts⟩ (hM l) ⟨hB, mn, hts _ mi⟩ ⟨blind, fun U hU hWU => ⟨rfl, pre_at hw hy hS hU hWU⟩⟩ rfl (by simpa using hlen) (hl.2.1) (by simp [cv]) (cat_sum hW) hd hf) C hw hS hl
theorem g_invIN {kk : MK} {n n' idx mc ms : Nat} {a : Id} {host : String} (as : List AV) (hd : decode k.2.1 pc = .ok (.invokespecial idx, 3)) (mf : MI kk n) (hret : kk.2.2.2 = none) (hl0 : (k.1.cls, idx, kk.1, host) ∈ NBm) (hlen : as.length = n)
    (hR : n' + 1 ≤ R.frames ∧ 8 + (kk.2.2.1 + 11) + 44 * n' ≤ R.locals) (hf : ca + mc ≤ R.cells ∧ sl + ms ≤ R.slots) (hW : (st.map vcat).sum ≤ 8)
    (hM : Mth E n' mc ms kk (vR a :: as) M (fun r M' => G E R k Z (ca + mc) (sl + ms) (pc + 3) lv (psh r st) M')) : G E R k Z ca sl pc lv (as.reverse ++ vR a :: st) M := by
  intro p l e s m args below meth c0 H locs ls C hw hy hS hl
  have hts := C.2.2.2.2.2.2.1
  obtain ⟨⟨mf1, mf2, mf3, mf4⟩, mi, mn⟩ := mf
  obtain ⟨y, b, mx, rt⟩ := kk
  cases hret
  refine g_back (va_runIN (host := host) (As := as.map (cv E)) (b := ad E a) (rest := st.map (cv E)) (nL := k.2.2.1) (g := F0 m pc ls ((as.reverse ++ vR a :: st).map (cv E))) ⟨C.1, C.2.1, C.2.2.1, C.2.2.2.2.2.1, hts⟩ (hM l) ⟨va_cnB n hts (ws_good (k := (y, b, mx, none)) ⟨mf1, mf2, mf3, mf4⟩) rfl rfl rfl (hw.2.2.1.1.2 _ hl0) (hts _ mf2) mf4 hR, mn, hts _ mi⟩ ⟨blind, fun U hU hWU => ⟨rfl, pre_at hw hy hS hU hWU⟩⟩ rfl (by simpa using hlen) (hl.2.1) (by simp [cv]) (cat_sum hW) hd hf) C hw hS hl
theorem g_gets {t idx : Nat} (hd : decode k.2.1 pc = .ok (.getstatic idx, 3)) (ht : t < 4) (hl0 : Cond.fieldLink k.1.cls idx (roC t) (roF t) "[I" ∈ TB) (h : G E R k Z ca sl (pc + 3) lv (vS t :: st) M) : G E R k Z ca sl pc lv st M :=
  fun p l e s m args below meth c H locs ls C hw hy hS hl => va_gets C.1 C.2.1 (hw.2.2.2.1 t ht).1 hS C.2.2.2.2.2.1 (C.2.2.2.2.2.2.1 _ hl0) (fun _ q => q) hd (h p l e s m args below meth c H locs ls C hw hy hS hl)
theorem g_getsN {t idx : Nat} {host : String} (hd : decode k.2.1 pc = .ok (.getstatic idx, 3)) (ht : t < 4) (hl0 : (k.1.cls, idx, roC t, roF t, "[I", host) ∈ NBf) (h : G E R k Z ca sl (pc + 3) lv (vS t :: st) M) : G E R k Z ca sl pc lv st M :=
  fun p l e s m args below meth c H locs ls C hw hy hS hl => va_getsN C.1 C.2.1 (hw.2.2.2.1 t ht).1 hS C.2.2.2.2.2.1 (va_Nw.use rfl (hw.2.2.1.1.1 _ hl0)) (fun _ q => q) hd (h p l e s m args below meth c H locs ls C hw hy hS hl)
theorem g_ialdS {t j : Nat} {i : Int32} (hd : decode k.2.1 pc = .ok (.iaload, 1)) (ht : t < 4) (hi : i = nI j) (hj : j < (roV t).length) (h : G E R k Z ca sl (pc + 1) lv (vI ((roV t).getD j 0) :: st) M) : G E R k Z ca sl pc lv (vI i :: vS t :: st) M := by
  intro p l e s m args below meth c H locs ls C hw hy hS hl
  have hb : ∀ t, t < 4 → (roV t).length < 2 ^ 31 := by decide +kernel
  obtain ⟨h1, h2⟩ := ix_in hi hj (hb t ht)
  exact va_ti C.1 C.2.1 (hw.2.2.2.1 t ht).2 hS h1 (v := .int ((roV t).getD j 0)) (by rw [h2]) hd (h p l e s m args below meth c H locs ls C hw hy hS hl)
theorem g_alenS {t : Nat} (hd : decode k.2.1 pc = .ok (.arraylength, 1)) (ht : t < 4) (h : G E R k Z ca sl (pc + 1) lv (vI (nI (roV t).length) :: st) M) : G E R k Z ca sl pc lv (vS t :: st) M := by
  intro p l e s m args below meth c H locs ls C hw hy hS hl
  obtain ⟨cell, z1, z2, z3, z4, z5, z6, z7⟩ := (hw.2.2.2.1 t ht).2
  exact W.alen C.1 C.2.1 (by rw [hS.2.1 _ (Array.getElem?_eq_some_iff.mp z1).1 z7]; exact z1) z2 z5 rfl rfl hd (h p l e s m args below meth c H locs ls C hw hy hS hl)
theorem g_ialdX {j : Nat} {i : Int32} (hd : decode k.2.1 pc = .ok (.iaload, 1)) (hi : i = nI j) (hj : j < eL E) (hL : eL E < 2 ^ 31) (h : G E R k Z ca sl (pc + 1) lv (vI (eX E j) :: st) M) : G E R k Z ca sl pc lv (vI i :: vS 4 :: st) M := by
  intro p l e s m args below meth c H locs ls C hw hy hS hl
  obtain ⟨h1, h2⟩ := ix_in hi hj hL
  have hk := h p l e s m args below meth c H locs ls C hw hy hS hl
  rw [← h2] at hk
  exact va_sld C.1 C.2.1 hw.2.2.2.2.1 hw.2.2.2.2.2.1 hw.2.2.2.2.2.2.1 hS h1 hd hk
theorem g_alenX (hd : decode k.2.1 pc = .ok (.arraylength, 1)) (h : G E R k Z ca sl (pc + 1) lv (vI (nI (eL E)) :: st) M) : G E R k Z ca sl pc lv (vS 4 :: st) M :=
  fun p l e s m args below meth c H locs ls C hw hy hS hl => va_slen C.1 C.2.1 hw.2.2.2.2.1 hw.2.2.2.2.2.1 hw.2.2.2.2.2.2.1 hS hd (h p l e s m args below meth c H locs ls C hw hy hS hl)
/-! returns -/
variable {Q : QT}
theorem qc_ret {args : Array Value} {s t : State} {H : Heap} {locs : List Loc} {r : Option AV} (hQ : Q r M) (hy : Wdy E M H) (hS : va_S (eZ E) s.heap H locs) (ht : t.heap = H) : QC E Q args s (.returned (r.map (cv E))) t := ⟨⟨r, M, rfl, hQ, by rw [ht]; exact hy⟩, hS.F ht⟩
theorem g_iret {x : Int32} (hd : decode k.2.1 pc = .ok (.ireturn, 1)) (hr : k.2.2.2 = some .int) (h : Q (some (vI x)) M) : G E R k (ZQ E Q ca sl) ca sl pc lv [vI x] M :=
  fun p l e s m args below meth c H locs ls C hw hy hS hl => W.iret (v := x) C.1 C.2.1 (C.2.2.2.1.trans hr) (fun t ht hW => qc_ret (r := some (vI x)) h hy hS ht) hS.2.2 hd C.2.2.2.2.1
theorem g_zret {x : Int32} (hd : decode k.2.1 pc = .ok (.ireturn, 1)) (hr : k.2.2.2 = some .boolean) (hx : x = 0 ∨ x = 1) (h : Q (some (vI x)) M) : G E R k (ZQ E Q ca sl) ca sl pc lv [vI x] M :=
  fun p l e s m args below meth c H locs ls C hw hy hS hl => W.zret (v := x) C.1 C.2.1 (C.2.2.2.1.trans hr) (nar_z hx).1 (fun t ht hW => qc_ret (r := some (vI x)) h hy hS ht) hS.2.2 hd C.2.2.2.2.1
theorem g_lret {x : Int64} (hd : decode k.2.1 pc = .ok (.lreturn, 1)) (hr : k.2.2.2 = some .long) (h : Q (some (vL x)) M) : G E R k (ZQ E Q ca sl) ca sl pc lv [vL x] M :=
  fun p l e s m args below meth c H locs ls C hw hy hS hl => W.lret (v := x) C.1 C.2.1 (C.2.2.2.1.trans hr) (fun t ht hW => qc_ret (r := some (vL x)) h hy hS ht) hS.2.2 hd C.2.2.2.2.1
theorem g_vret (hd : decode k.2.1 pc = .ok (.return_, 1)) (hr : k.2.2.2 = none) (h : Q none M) : G E R k (ZQ E Q ca sl) ca sl pc lv [] M :=
  fun p l e s m args below meth c H locs ls C hw hy hS hl => W.vret C.1 C.2.1 (C.2.2.2.1.trans hr) (fun t ht hW => qc_ret (r := none) h hy hS ht) hS.2.2 hd C.2.2.2.2.1
theorem g_aret {a : Id} {n : String} (hd : decode k.2.1 pc = .ok (.areturn, 1)) (hr : k.2.2.2 = some (.object n)) (h : Q (some (vR a)) M) : G E R k (ZQ E Q ca sl) ca sl pc lv [vR a] M :=
  fun p l e s m args below meth c H locs ls C hw hy hS hl => W.aret (v := .ref (ad E a)) C.1 C.2.1 (C.2.2.2.1.trans hr) (Or.inl ⟨n, rfl⟩) (Or.inr ⟨_, rfl⟩) (fun t ht hW => qc_ret (r := some (vR a)) h hy hS ht) hS.2.2 hd C.2.2.2.2.1
theorem g_aretS {a : Nat} {n : String} (hd : decode k.2.1 pc = .ok (.areturn, 1)) (hr : k.2.2.2 = some (.object n)) (h : Q (some (vS a)) M) : G E R k (ZQ E Q ca sl) ca sl pc lv [vS a] M :=
  fun p l e s m args below meth c H locs ls C hw hy hS hl => W.aret (v := .ref (eR E a)) C.1 C.2.1 (C.2.2.2.1.trans hr) (Or.inl ⟨n, rfl⟩) (Or.inr ⟨_, rfl⟩) (fun t ht hW => qc_ret (r := some (vS a)) h hy hS ht) hS.2.2 hd C.2.2.2.2.1
/-! a method's contract out of the walk of its body -/
def avs : List AV → List (Option AV)
  | [] => []
  | .inr (.inl x) :: r => some (vL x) :: none :: avs r
  | v :: r => some v :: avs r
end RC
